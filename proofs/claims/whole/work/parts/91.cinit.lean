/-! THE CLASS: constructors -/
/-- cells from z on are new, x is filled, the rest stays -/
def grw (x z z1 : Nat) (T : Nat → Nat) (N : Nat → Int) (I : Nat → Int → Int) (R : Nat → Int → Option Nat) (T1 : Nat → Nat) (N1 : Nat → Int) (I1 : Nat → Int → Int) (R1 : Nat → Int → Option Nat) : Prop := z ≤ z1 ∧ (∀ q, q < z → q ≠ x → T1 q = T q ∧ N1 q = N q ∧ I1 q = I q ∧ R1 q = R q) ∧ (∀ q, z1 ≤ q → T1 q = T q) ∧ T1 x = T x ∧ N1 x = N x

set_option maxHeartbeats 4000000 in
set_option maxRecDepth 100000 in
theorem c_init9 {G : ax_G} {T : Nat → Nat} {N : Nat → Int} {I : Nat → Int → Int} {R : Nat → Int → Option Nat} {z : Nat} {x : Nat} : axR G YX9_init 1 [vR x] T N I R z (fun r1 I1 R1 => r1 = none ∧ I1 = I ∧ R1 = R) := by

  refine ax_enter (by decide) (Nat.le_of_ble_eq_true rfl) (ax_cat rfl) (fun f hC => ?_)
  show axX G f 0 0 _ 0 [vR x] [] T N I R z 0 0
  refine x_aload_n (pc := 0) hC dX9_init_0 rfl ?_
  refine x_objInit (pc := 1) hC oi_X9_3 w_oinst w_ocode dX9_init_1 (by decide) rfl (Nat.le_of_ble_eq_true rfl) ?_
  refine x_vret (pc := 4) hC rfl dX9_init_4 ?_
  exact ⟨⟨rfl, rfl, rfl⟩, rfl, rfl, rfl⟩

set_option maxHeartbeats 4000000 in
set_option maxRecDepth 100000 in
theorem c_init10 {G : ax_G} {T : Nat → Nat} {N : Nat → Int} {I : Nat → Int → Int} {R : Nat → Int → Option Nat} {z : Nat} {x : Nat} : axR G YX10_init 1 [vR x] T N I R z (fun r1 I1 R1 => r1 = none ∧ I1 = I ∧ R1 = R) := by

  refine ax_enter (by decide) (Nat.le_of_ble_eq_true rfl) (ax_cat rfl) (fun f hC => ?_)
  show axX G f 0 0 _ 0 [vR x] [] T N I R z 0 0
  refine x_aload_n (pc := 0) hC dX10_init_0 rfl ?_
  refine x_objInit (pc := 1) hC oi_X10_1 w_oinst w_ocode dX10_init_1 (by decide) rfl (Nat.le_of_ble_eq_true rfl) ?_
  refine x_vret (pc := 4) hC rfl dX10_init_4 ?_
  exact ⟨⟨rfl, rfl, rfl⟩, rfl, rfl, rfl⟩

set_option maxHeartbeats 4000000 in
set_option maxRecDepth 100000 in
theorem c_init4 {G : ax_G} {T : Nat → Nat} {N : Nat → Int} {I : Nat → Int → Int} {R : Nat → Int → Option Nat} {z : Nat} {x : Nat} (hx : T x = 4) : axR G YX4_init 1 [vR x] T N I R z (fun r1 I1 R1 => r1 = none ∧ I1 = I ∧ R1 = ax_u R x 0 (some G.2.2.2.2.1)) := by

  refine ax_enter (by decide) (Nat.le_of_ble_eq_true rfl) (ax_cat rfl) (fun f hC => ?_)
  show axX G f 0 0 _ 0 [vR x] [] T N I R z 0 0
  refine x_aload_n (pc := 0) hC dX4_init_0 rfl ?_
  refine x_objInit (pc := 1) hC oi_X4_3 w_oinst w_ocode dX4_init_1 (by decide) rfl (Nat.le_of_ble_eq_true rfl) ?_
  refine x_aload_n (pc := 4) hC dX4_init_4 rfl ?_
  refine x_nolines0 (pc := 5) hC gs_X4_9 dX4_init_5 ?_
  refine x_putO (pc := 8) hC pf_X4_13 dX4_init_8 (Or.inr ⟨_, rfl⟩) hx (fun _ => rfl) ?_
  refine x_vret (pc := 11) hC rfl dX4_init_11 ?_
  exact ⟨⟨rfl, rfl, rfl⟩, rfl, rfl, rfl⟩

set_option maxHeartbeats 4000000 in
set_option maxRecDepth 100000 in
theorem c_init8 {G : ax_G} {T : Nat → Nat} {N : Nat → Int} {I : Nat → Int → Int} {R : Nat → Int → Option Nat} {z : Nat} {s : Nat} (hs : T s = 8) (hz : z = s + 1) : axM G YX8_init 1 [vR s] T N I R z 2 99 (fun r1 T1 N1 I1 R1 z1 => r1 = none ∧ z1 = s + 3 ∧ grw s (s + 1) (s + 3) T N I R T1 N1 I1 R1 ∧ shT T1 N1 R1 s) := by

  refine ax_enter (by decide) (Nat.le_of_ble_eq_true rfl) (ax_cat rfl) (fun f hC => ?_)
  show axX G f 2 99 _ 0 [vR s] [] T N I R z 2 99
  subst hz
  refine x_aload_n (pc := 0) hC dX8_init_0 rfl ?_
  refine x_objInit (pc := 1) hC oi_X8_3 w_oinst w_ocode dX8_init_1 (by decide) rfl (Nat.le_of_ble_eq_true rfl) ?_
  refine x_aload_n (pc := 4) hC dX8_init_4 rfl ?_
  refine x_bipush (pc := 5) hC dX8_init_5 (by decide) ?_
  refine x_newi (pc := 7) hC w_arrI dX8_init_7 (by omega) (by omega) (by omega) (by omega) ?_
  refine x_putO (pc := 9) hC pf_X8_9 dX8_init_9 (Or.inr ⟨_, rfl⟩) (by rw [axn_a (by omega)]; exact hs) (fun _ => rfl) ?_
  refine x_aload_n (pc := 12) hC dX8_init_12 rfl ?_
  refine x_bipush (pc := 13) hC dX8_init_13 (by decide) ?_
  refine x_newi (pc := 15) hC w_arrI dX8_init_15 (by omega) (by omega) (by omega) (by omega) ?_
  refine x_putO (pc := 17) hC pf_X8_15 dX8_init_17 (Or.inr ⟨_, rfl⟩) (by rw [axn_a (by omega), axn_a (by omega)]; exact hs) (fun _ => rfl) ?_
  refine x_vret (pc := 20) hC rfl dX8_init_20 ?_
  refine ⟨rfl, rfl, ⟨by omega, fun q h1 h2 => ⟨?_, ?_, ?_, ?_⟩, fun q h1 => ?_, ?_, ?_⟩, ?_, ⟨?_, ?_, ?_⟩, ?_, ?_, ?_⟩
  · rw [axn_a (by omega), axn_a (by omega)]
  · rw [axn_a (by omega), axn_a (by omega)]
  · rw [axn_a (by omega), axn_a (by omega)]
  · rw [axu_row h2, axn_a (by omega), axu_row h2, axn_a (by omega)]
  · rw [axn_a (by omega), axn_a (by omega)]
  · rw [axn_a (by omega), axn_a (by omega)]
  · rw [axn_a (by omega), axn_a (by omega)]
  · rw [axn_a (by omega), axn_a (by omega)]; exact hs
  · rw [axu_j (by decide), axn_a (by omega), axu_s]
  · rw [axn_a (by omega), axn_s]
  · rw [axn_a (by omega), axn_s]
  · rw [axu_s]
  · rw [axn_s]
  · rw [axn_s]

set_option maxHeartbeats 4000000 in
set_option maxRecDepth 100000 in
theorem c_init6 {G : ax_G} {T : Nat → Nat} {N : Nat → Int} {I : Nat → Int → Int} {R : Nat → Int → Option Nat} {z : Nat} {r w : Nat} {f d : Option Nat} (hr : T r = 6) (hrw : r < w) (hz : z = w) : axM G YX6_init 1 [vR r, vO f, vO d] T N I R z 5 64 (fun r1 T1 N1 I1 R1 z1 => r1 = none ∧ z1 = w + 5 ∧ grw r w (w + 5) T N I R T1 N1 I1 R1 ∧ rpT T1 N1 R1 r w ∧ (R1 r 0 = d ∧ R1 r 2 = f ∧ R1 r 3 = f) ∧ (∀ j, j ≠ 5 → I1 r j = I r j) ∧ (∀ q j, w ≤ q → q < w + 5 → I1 q j = 0 ∧ R1 q j = none)) := by

  refine ax_enter (by decide) (Nat.le_of_ble_eq_true rfl) (ax_cat (by cases f <;> cases d <;> rfl)) (fun fr hC => ?_)
  show axX G fr 5 64 _ 0 [vR r, vO f, vO d] [] T N I R z 5 64
  subst hz
  refine x_aload_n (pc := 0) hC dX6_init_0 rfl ?_
  refine x_objInit (pc := 1) hC oi_X6_3 w_oinst w_ocode dX6_init_1 (by decide) rfl (Nat.le_of_ble_eq_true rfl) ?_
  refine x_aload_n (pc := 4) hC dX6_init_4 rfl ?_
  refine x_bipush (pc := 5) hC dX6_init_5 (by decide) ?_
  refine x_newr (pc := 7) hC axEl_15 kl_X6_9 n_o15 dX6_init_7 (by omega) (by omega) (by omega) (by omega) ?_
  refine x_putO (pc := 10) hC pf_X6_11 dX6_init_10 (Or.inr ⟨_, rfl⟩) (by rw [axn_a (by omega)]; exact hr) (fun _ => rfl) ?_
  refine x_aload_n (pc := 13) hC dX6_init_13 rfl ?_
  refine x_iconst (pc := 14) hC dX6_init_14 ?_
  refine x_putI (pc := 15) hC pf_X6_17 dX6_init_15 (by rw [axn_a (by omega)]; exact hr) (fun _ => rfl) ?_
  refine x_aload_n (pc := 18) hC dX6_init_18 rfl ?_
  refine x_bipush (pc := 19) hC dX6_init_19 (by decide) ?_
  refine x_newr (pc := 21) hC axEl_15 kl_X6_9 n_o15 dX6_init_21 (by omega) (by omega) (by omega) (by omega) ?_
  refine x_putO (pc := 24) hC pf_X6_21 dX6_init_24 (Or.inr ⟨_, rfl⟩) (by rw [axn_a (by omega), axn_a (by omega)]; exact hr) (fun _ => rfl) ?_
  refine x_aload_n (pc := 27) hC dX6_init_27 rfl ?_
  refine x_iconst (pc := 28) hC dX6_init_28 ?_
  refine x_newi (pc := 29) hC w_arrI dX6_init_29 (by omega) (by omega) (by omega) (by omega) ?_
  refine x_putO (pc := 31) hC pf_X6_24 dX6_init_31 (Or.inr ⟨_, rfl⟩) (by rw [axn_a (by omega), axn_a (by omega), axn_a (by omega)]; exact hr) (fun _ => rfl) ?_
  refine x_aload_n (pc := 34) hC dX6_init_34 rfl ?_
  refine x_iconst (pc := 35) hC dX6_init_35 ?_
  refine x_newi (pc := 36) hC w_arrI dX6_init_36 (by omega) (by omega) (by omega) (by omega) ?_
  refine x_putO (pc := 38) hC pf_X6_28 dX6_init_38 (Or.inr ⟨_, rfl⟩) (by rw [axn_a (by omega), axn_a (by omega), axn_a (by omega), axn_a (by omega)]; exact hr) (fun _ => rfl) ?_
  refine x_aload_n (pc := 41) hC dX6_init_41 rfl ?_
  refine x_bipush (pc := 42) hC dX6_init_42 (by decide) ?_
  refine x_newr (pc := 44) hC axEl_16 kl_X6_31 n_o16 dX6_init_44 (by omega) (by omega) (by omega) (by omega) ?_
  refine x_putO (pc := 47) hC pf_X6_33 dX6_init_47 (Or.inr ⟨_, rfl⟩) (by rw [axn_a (by omega), axn_a (by omega), axn_a (by omega), axn_a (by omega), axn_a (by omega)]; exact hr) (fun _ => rfl) ?_
  refine x_aload_n (pc := 50) hC dX6_init_50 rfl ?_
  refine x_aload_n (pc := 51) hC dX6_init_51 rfl ?_
  refine x_putO (pc := 52) hC pf_X6_37 dX6_init_52 (Or.inl ⟨_, rfl⟩) (by rw [axn_a (by omega), axn_a (by omega), axn_a (by omega), axn_a (by omega), axn_a (by omega)]; exact hr) (fun _ => rfl) ?_
  refine x_aload_n (pc := 55) hC dX6_init_55 rfl ?_
  refine x_aload_n (pc := 56) hC dX6_init_56 rfl ?_
  refine x_putO (pc := 57) hC pf_X6_41 dX6_init_57 (Or.inl ⟨_, rfl⟩) (by rw [axn_a (by omega), axn_a (by omega), axn_a (by omega), axn_a (by omega), axn_a (by omega)]; exact hr) (fun _ => rfl) ?_
  refine x_aload_n (pc := 60) hC dX6_init_60 rfl ?_
  refine x_aload_n (pc := 61) hC dX6_init_61 rfl ?_
  refine x_putO (pc := 62) hC pf_X6_44 dX6_init_62 (Or.inl ⟨_, rfl⟩) (by rw [axn_a (by omega), axn_a (by omega), axn_a (by omega), axn_a (by omega), axn_a (by omega)]; exact hr) (fun _ => rfl) ?_
  refine x_vret (pc := 65) hC rfl dX6_init_65 ?_
  have nr : ∀ k, k ≤ 4 → r ≠ z + k := fun k _ => by omega
  have hT1 : ∀ q, q < z → ax_n (ax_n (ax_n (ax_n (ax_n T z 15) (z + 1) 15) (z + 1 + 1) 13) (z + 1 + 1 + 1) 13) (z + 1 + 1 + 1 + 1) 16 q = T q := fun q hq => by rw [axn_a (by omega), axn_a (by omega), axn_a (by omega), axn_a (by omega), axn_a (by omega)]
  have hN1 : ∀ q, q < z → ax_n (ax_n (ax_n (ax_n (ax_n N z 24) (z + 1) 24) (z + 1 + 1) 4) (z + 1 + 1 + 1) 4) (z + 1 + 1 + 1 + 1) 8 q = N q := fun q hq => by rw [axn_a (by omega), axn_a (by omega), axn_a (by omega), axn_a (by omega), axn_a (by omega)]
  refine ⟨rfl, rfl, ⟨by omega, fun q h1 h2 => ⟨hT1 q h1, hN1 q h1, ?_, ?_⟩, fun q h1 => ?_, hT1 r hrw, hN1 r hrw⟩, ⟨by rw [hT1 r hrw]; exact hr, ⟨?_, ?_, ?_⟩, ⟨?_, ?_, ?_⟩, ⟨?_, ?_, ?_⟩, ⟨?_, ?_, ?_⟩, ?_, ?_, ?_⟩, ⟨?_, ?_, ?_⟩, fun j hj => ?_, fun q j h1 h2 => ⟨?_, ?_⟩⟩
  all_goals first | done | (simp (disch := omega) only [axn_a, axn_s, axu_s, axu_a, axu_j, axu_row]; done) | skip
  all_goals (have h4 : q = z ∨ q = z + 1 ∨ q = z + 1 + 1 ∨ q = z + 1 + 1 + 1 ∨ q = z + 1 + 1 + 1 + 1 := by omega)
  all_goals (rcases h4 with rfl | rfl | rfl | rfl | rfl <;> simp (disch := omega) only [axn_a, axn_s, axu_s, axu_a, axu_j, axu_row])

