/-! THE CLASS: constructors of a matching and a merger -/
def mtK (T : Nat → Nat) (N : Nat → Int) (R : Nat → Int → Option Nat) (m : Nat) (x : Int) : Prop := T m = 2 ∧ (R m 0 = some (m + 1) ∧ T (m + 1) = 13 ∧ N (m + 1) = 289) ∧ (R m 1 = some (m + 2) ∧ T (m + 2) = 13 ∧ N (m + 2) = 16) ∧ (R m 2 = some (m + 3) ∧ T (m + 3) = 14 ∧ N (m + 3) = 17) ∧ (R m 3 = some (m + 4) ∧ T (m + 4) = 14 ∧ N (m + 4) = 17) ∧ ∀ k : Nat, (k : Int) < x → R (m + 3) k = some (m + 5 + 2 * k) ∧ T (m + 5 + 2 * k) = 4 ∧ R (m + 4) k = some (m + 6 + 2 * k) ∧ T (m + 6 + 2 * k) = 4
/-- a pair of parts more -/
theorem mtK_s {T : Nat → Nat} {N : Nat → Int} {R : Nat → Int → Option Nat} {m z : Nat} {x : Int} {p : Option Nat} (h : mtK T N R m x) (x0 : 0 ≤ x) (hz : (z : Int) = m + 5 + 2 * x) : mtK (ax_n (ax_n T z 4) (z + 1) 4) N (ax_u (ax_u (ax_n (ax_u (ax_u (ax_n R z (fun _ => none)) z 0 p) (m + 3) x (some z)) (z + 1) (fun _ => none)) (z + 1) 0 p) (m + 4) x (some (z + 1))) m (x + 1) := by
  obtain ⟨h1, ⟨h2, h3, h4⟩, ⟨h5, h6, h7⟩, ⟨h8, h9, h10⟩, ⟨h11, h12, h13⟩, h14⟩ := h
  refine ⟨?_, ⟨?_, ?_, h4⟩, ⟨?_, ?_, h7⟩, ⟨?_, ?_, h10⟩, ⟨?_, ?_, h13⟩, fun k hk => ?_⟩
  all_goals first | done | (simp (disch := omega) only [axn_a, axn_s, axu_s, axu_a, axu_j, axu_row]; assumption) | skip
  by_cases e : (k : Int) = x
  · have e1 : m + 5 + 2 * k = z := by omega
    have e2 : m + 6 + 2 * k = z + 1 := by omega
    rw [e1, e2, e]
    refine ⟨?_, ?_, ?_, ?_⟩
    all_goals (simp (disch := omega) only [axn_a, axn_s, axu_s, axu_a, axu_j, axu_row])
  · have := h14 k (by omega)
    obtain ⟨a1, a2, a3, a4⟩ := this
    refine ⟨?_, ?_, ?_, ?_⟩
    all_goals (simp (disch := omega) only [axn_a, axn_s, axu_s, axu_a, axu_j, axu_row]; assumption)
/-- cells from y on are new (up to z now), m is filled -/
def grK (m z : Nat) (T : Nat → Nat) (N : Nat → Int) (I : Nat → Int → Int) (R : Nat → Int → Option Nat) (T1 : Nat → Nat) (N1 : Nat → Int) (I1 : Nat → Int → Int) (R1 : Nat → Int → Option Nat) : Prop := (∀ q, q < m → T1 q = T q ∧ N1 q = N q ∧ I1 q = I q ∧ R1 q = R q) ∧ (∀ q, z ≤ q → T1 q = T q) ∧ T1 m = T m ∧ N1 m = N m
theorem axTakes_4 : axTakes RX4 4 := ⟨_, _, _, _, ck_X4, Or.inl rfl⟩
theorem axTakes_9 : axTakes RX9 9 := ⟨_, _, _, _, ck_X9, Or.inl rfl⟩
theorem mtT_eq {T T1 : Nat → Nat} {N N1 : Nat → Int} {R R1 : Nat → Int → Option Nat} {m : Nat} (h : mtT T N R m) (e : ∀ q, m ≤ q → q < m + 39 → T1 q = T q ∧ N1 q = N q ∧ R1 q = R q) : mtT T1 N1 R1 m := by
  obtain ⟨h1, ⟨h2, h3, h4⟩, ⟨h5, h6, h7⟩, ⟨h8, h9, h10⟩, ⟨h11, h12, h13⟩, h14⟩ := h
  have e0 := e m (by omega) (by omega)
  have e1 := e (m + 1) (by omega) (by omega)
  have e2 := e (m + 2) (by omega) (by omega)
  have e3 := e (m + 3) (by omega) (by omega)
  have e4 := e (m + 4) (by omega) (by omega)
  refine ⟨e0.1.trans h1, ⟨by rw [e0.2.2]; exact h2, e1.1.trans h3, e1.2.1.trans h4⟩, ⟨by rw [e0.2.2]; exact h5, e2.1.trans h6, e2.2.1.trans h7⟩, ⟨by rw [e0.2.2]; exact h8, e3.1.trans h9, e3.2.1.trans h10⟩, ⟨by rw [e0.2.2]; exact h11, e4.1.trans h12, e4.2.1.trans h13⟩, fun k hk => ?_⟩
  obtain ⟨a1, a2, a3, a4⟩ := h14 k hk
  exact ⟨by rw [e3.2.2]; exact a1, (e _ (by omega) (by omega)).1.trans a2, by rw [e4.2.2]; exact a3, (e _ (by omega) (by omega)).1.trans a4⟩
theorem shT_eq {T T1 : Nat → Nat} {N N1 : Nat → Int} {R R1 : Nat → Int → Option Nat} {m : Nat} (h : shT T N R m) (e : ∀ q, m ≤ q → q < m + 3 → T1 q = T q ∧ N1 q = N q ∧ R1 q = R q) : shT T1 N1 R1 m := by
  obtain ⟨h1, ⟨h2, h3, h4⟩, h5, h6, h7⟩ := h
  have e0 := e m (by omega) (by omega)
  have e1 := e (m + 1) (by omega) (by omega)
  have e2 := e (m + 2) (by omega) (by omega)
  exact ⟨e0.1.trans h1, ⟨by rw [e0.2.2]; exact h2, e1.1.trans h3, e1.2.1.trans h4⟩, by rw [e0.2.2]; exact h5, e2.1.trans h6, e2.2.1.trans h7⟩

set_option maxHeartbeats 4000000 in
set_option maxRecDepth 100000 in
theorem c_init2 {G : ax_G} {T : Nat → Nat} {N : Nat → Int} {I : Nat → Int → Int} {R : Nat → Int → Option Nat} {z : Nat} {m : Nat} (hm : T m = 2) (hz : z = m + 1) : axM G YX2_init 3 [vR m] T N I R z 38 441 (fun r1 T1 N1 I1 R1 z1 => r1 = none ∧ z1 = m + 39 ∧ grK m (m + 39) T N I R T1 N1 I1 R1 ∧ mtT T1 N1 R1 m) := by

  refine ax_enter (by decide) (Nat.le_of_ble_eq_true rfl) (ax_cat rfl) (fun f hC => ?_)
  show axX G f 38 441 _ 0 [vR m, vU] [] T N I R z 38 441
  subst hz
  have loop : ∀ (n : Nat) (x : Int) (T1 : Nat → Nat) (N1 : Nat → Int) (I1 : Nat → Int → Int) (R1 : Nat → Int → Option Nat) (z1 k9 n9 : Nat), (17 - x).toNat ≤ n → 0 ≤ x → x ≤ 17 → (z1 : Int) = m + 5 + 2 * x → 2 * (17 - x) ≤ k9 → 6 * (17 - x) ≤ n9 → mtK T1 N1 R1 m x → grK m z1 T N I R T1 N1 I1 R1 → axX G f 38 441 (fun r1 T1 N1 I1 R1 z1 => r1 = none ∧ z1 = m + 39 ∧ grK m (m + 39) T N I R T1 N1 I1 R1 ∧ mtT T1 N1 R1 m) 41 [vR m, vI x] [] T1 N1 I1 R1 z1 k9 n9 := by
    intro n
    induction n with
    | zero =>
      intro x T1 N1 I1 R1 z1 k9 n9 hn9 x0 x1 hz hk hn h1 h2
      have e : x = 17 := by omega
      subst e
      refine x_iload_n (pc := 41) hC dX2_init_41 rfl ?_
      refine x_bipush (pc := 42) hC dX2_init_42 (by decide) ?_
      refine x_icmp_ge (pc := 44) hC 79 dX2_init_44 (by decide) (by omega) (by omega) (fun b44 => ?_) (fun b44 => ?_)
      · refine x_vret (pc := 79) hC rfl dX2_init_79 ?_
        have e : z1 = m + 39 := by omega
        subst e
        exact ⟨rfl, rfl, h2, h1.1, h1.2.1, h1.2.2.1, h1.2.2.2.1, h1.2.2.2.2.1, fun k hk => h1.2.2.2.2.2 k (by omega)⟩
      · exfalso; omega
    | succ n ih =>
      intro x T1 N1 I1 R1 z1 k9 n9 hn9 x0 x1 hz hk hn h1 h2
      refine x_iload_n (pc := 41) hC dX2_init_41 rfl ?_
      refine x_bipush (pc := 42) hC dX2_init_42 (by decide) ?_
      refine x_icmp_ge (pc := 44) hC 79 dX2_init_44 (by decide) (by omega) (by omega) (fun b44 => ?_) (fun b44 => ?_)
      · refine x_vret (pc := 79) hC rfl dX2_init_79 ?_
        have e : x = 17 := by omega
        subst e
        have e : z1 = m + 39 := by omega
        subst e
        exact ⟨rfl, rfl, h2, h1.1, h1.2.1, h1.2.2.1, h1.2.2.2.1, h1.2.2.2.2.1, fun k hk => h1.2.2.2.2.2 k (by omega)⟩
      · refine x_aload_n (pc := 47) hC dX2_init_47 rfl ?_
        refine x_getO (pc := 48) hC gf_X2_20 dX2_init_48 h1.1 h1.2.2.2.1.1 ?_
        refine x_iload_n (pc := 51) hC dX2_init_51 rfl ?_
        refine x_new (pc := 52) hC nw_X2_18 dX2_init_52 (by omega) (by omega) ?_
        refine x_dup (pc := 55) hC dX2_init_55 rfl ?_
        refine x_callI (pc := 56) hC ci_X2_27 dX2_init_56 (c_init4 axn_s) rfl (by decide) (by omega) (by omega) rfl rfl (Nat.le_of_ble_eq_true rfl) (fun _ _ _ _ _ _ hq => ?_)
        obtain ⟨⟨rfl, rfl, rfl⟩, rfl, rfl, rfl⟩ := hq
        dsimp only [Option.toList, List.nil_append]
        refine x_aast (pc := 59) hC axEl_14 dX2_init_59 (by rw [axn_a (by omega)]; exact h1.2.2.2.1.2.1) (by omega) (by rw [h1.2.2.2.1.2.2]; omega) (fun v hv => by cases hv; rw [axn_s]; exact axTakes_4) ?_
        refine x_aload_n (pc := 60) hC dX2_init_60 rfl ?_
        refine x_getO (pc := 61) hC gf_X2_24 dX2_init_61 (by rw [axn_a (by omega)]; exact h1.1) (by simp (disch := omega) only [axn_a, axn_s, axu_s, axu_a, axu_j, axu_row]; exact h1.2.2.2.2.1.1) ?_
        refine x_iload_n (pc := 64) hC dX2_init_64 rfl ?_
        refine x_new (pc := 65) hC nw_X2_18 dX2_init_65 (by omega) (by omega) ?_
        refine x_dup (pc := 68) hC dX2_init_68 rfl ?_
        refine x_callI (pc := 69) hC ci_X2_27 dX2_init_69 (c_init4 axn_s) rfl (by decide) (by omega) (by omega) rfl rfl (Nat.le_of_ble_eq_true rfl) (fun _ _ _ _ _ _ hq => ?_)
        obtain ⟨⟨rfl, rfl, rfl⟩, rfl, rfl, rfl⟩ := hq
        dsimp only [Option.toList, List.nil_append]
        refine x_aast (pc := 72) hC axEl_14 dX2_init_72 (by rw [axn_a (by omega), axn_a (by omega)]; exact h1.2.2.2.2.1.2.1) (by omega) (by rw [h1.2.2.2.2.1.2.2]; omega) (fun v hv => by cases hv; rw [axn_s]; exact axTakes_4) ?_
        refine x_iinc (pc := 73) hC dX2_init_73 rfl ?_
        dsimp only [List.set]
        refine x_goto (pc := 76) hC 41 dX2_init_76 (by decide) ?_
        exact ih (x + 1) _ _ _ _ _ _ _ (by omega) (by omega) (by omega) (by omega) (by omega) (by omega) (mtK_s h1 x0 hz) ⟨fun q hq => by
            obtain ⟨q1, q2, q3, q4⟩ := h2.1 q hq
            refine ⟨?_, q2, ?_, ?_⟩
            all_goals (simp (disch := omega) only [axn_a, axn_s, axu_s, axu_a, axu_j, axu_row]; assumption), fun q hq => by
            rw [axn_a (by omega), axn_a (by omega)]; exact h2.2.1 q (by omega), by rw [axn_a (by omega), axn_a (by omega)]; exact h2.2.2.1, h2.2.2.2⟩
  refine x_aload_n (pc := 0) hC dX2_init_0 rfl ?_
  refine x_objInit (pc := 1) hC oi_X2_3 w_oinst w_ocode dX2_init_1 (by decide) rfl (Nat.le_of_ble_eq_true rfl) ?_
  refine x_aload_n (pc := 4) hC dX2_init_4 rfl ?_
  refine x_sipush (pc := 5) hC dX2_init_5 (by decide) ?_
  refine x_newi (pc := 8) hC w_arrI dX2_init_8 (by omega) (by omega) (by omega) (by omega) ?_
  refine x_putO (pc := 10) hC pf_X2_11 dX2_init_10 (Or.inr ⟨_, rfl⟩) (by rw [axn_a (by omega)]; exact hm) (fun _ => rfl) ?_
  refine x_aload_n (pc := 13) hC dX2_init_13 rfl ?_
  refine x_bipush (pc := 14) hC dX2_init_14 (by decide) ?_
  refine x_newi (pc := 16) hC w_arrI dX2_init_16 (by omega) (by omega) (by omega) (by omega) ?_
  refine x_putO (pc := 18) hC pf_X2_15 dX2_init_18 (Or.inr ⟨_, rfl⟩) (by rw [axn_a (by omega), axn_a (by omega)]; exact hm) (fun _ => rfl) ?_
  refine x_aload_n (pc := 21) hC dX2_init_21 rfl ?_
  refine x_bipush (pc := 22) hC dX2_init_22 (by decide) ?_
  refine x_newr (pc := 24) hC axEl_14 kl_X2_18 n_o14 dX2_init_24 (by omega) (by omega) (by omega) (by omega) ?_
  refine x_putO (pc := 27) hC pf_X2_20 dX2_init_27 (Or.inr ⟨_, rfl⟩) (by rw [axn_a (by omega), axn_a (by omega), axn_a (by omega)]; exact hm) (fun _ => rfl) ?_
  refine x_aload_n (pc := 30) hC dX2_init_30 rfl ?_
  refine x_bipush (pc := 31) hC dX2_init_31 (by decide) ?_
  refine x_newr (pc := 33) hC axEl_14 kl_X2_18 n_o14 dX2_init_33 (by omega) (by omega) (by omega) (by omega) ?_
  refine x_putO (pc := 36) hC pf_X2_24 dX2_init_36 (Or.inr ⟨_, rfl⟩) (by rw [axn_a (by omega), axn_a (by omega), axn_a (by omega), axn_a (by omega)]; exact hm) (fun _ => rfl) ?_
  refine x_iconst (pc := 39) hC dX2_init_39 ?_
  refine x_istore_n (pc := 40) hC dX2_init_40 (Nat.le_of_ble_eq_true rfl) ?_
  dsimp only [List.set]
  refine loop _ 0 _ _ _ _ _ _ _ (Nat.le_refl _) (by omega) (by omega) (by omega) (by omega) (by omega) ⟨?_, ⟨?_, ?_, ?_⟩, ⟨?_, ?_, ?_⟩, ⟨?_, ?_, ?_⟩, ⟨?_, ?_, ?_⟩, fun k hk => by omega⟩ ⟨fun q hq => ⟨?_, ?_, ?_, ?_⟩, fun q hq => ?_, ?_, ?_⟩
  all_goals first | (simp (disch := omega) only [axn_a, axn_s, axu_s, axu_a, axu_j, axu_row]; done) | (simp (disch := omega) only [axn_a, axn_s, axu_s, axu_a, axu_j, axu_row]; assumption)

set_option maxHeartbeats 4000000 in
set_option maxRecDepth 100000 in
theorem c_init3 {G : ax_G} {T : Nat → Nat} {N : Nat → Int} {I : Nat → Int → Int} {R : Nat → Int → Option Nat} {z : Nat} {g : Nat} (hg : T g = 3) (hz : z = g + 1) : axM G YX3_init 4 [vR g] T N I R z 92 1274 (fun r1 T1 N1 I1 R1 z1 => r1 = none ∧ z1 = g + 93 ∧ grK g (g + 93) T N I R T1 N1 I1 R1 ∧ mgT T1 N1 R1 g ∧ R1 g 16 = some (g + 87) ∧ I1 g 1 = I g 1 ∧ ∀ j, R1 (g + 1) j = none) := by

  refine ax_enter (by decide) (Nat.le_of_ble_eq_true rfl) (ax_cat rfl) (fun f hC => ?_)
  show axX G f 92 1274 _ 0 [vR g] [] T N I R z 92 1274
  subst hz
  refine x_aload_n (pc := 0) hC dX3_init_0 rfl ?_
  refine x_objInit (pc := 1) hC oi_X3_3 w_oinst w_ocode dX3_init_1 (by decide) rfl (Nat.le_of_ble_eq_true rfl) ?_
  refine x_aload_n (pc := 4) hC dX3_init_4 rfl ?_
  refine x_bipush (pc := 5) hC dX3_init_5 (by decide) ?_
  refine x_newr (pc := 7) hC axEl_16 kl_X3_9 n_o16 dX3_init_7 (by omega) (by omega) (by omega) (by omega) ?_
  refine x_putO (pc := 10) hC pf_X3_11 dX3_init_10 (Or.inr ⟨_, rfl⟩) (by simp (disch := omega) only [axn_a, axn_s, axu_s, axu_a, axu_j, axu_row]; exact hg) (fun _ => rfl) ?_
  refine x_aload_n (pc := 13) hC dX3_init_13 rfl ?_
  refine x_sipush (pc := 14) hC dX3_init_14 (by decide) ?_
  refine x_newi (pc := 17) hC w_arrI dX3_init_17 (by omega) (by omega) (by omega) (by omega) ?_
  refine x_putO (pc := 19) hC pf_X3_17 dX3_init_19 (Or.inr ⟨_, rfl⟩) (by simp (disch := omega) only [axn_a, axn_s, axu_s, axu_a, axu_j, axu_row]; exact hg) (fun _ => rfl) ?_
  refine x_aload_n (pc := 22) hC dX3_init_22 rfl ?_
  refine x_new (pc := 23) hC nw_X3_21 dX3_init_23 (by omega) (by omega) ?_
  refine x_dup (pc := 26) hC dX3_init_26 rfl ?_
  refine x_callI (pc := 27) hC ci_X3_23 dX3_init_27 (c_init2 (m := g + 3) axn_s (by omega)) rfl (by decide) (by omega) (by omega) rfl rfl (Nat.le_of_ble_eq_true rfl) (fun _ _ _ _ _ _ hq => ?_)
  rename_i r1 T1 N1 I1 R1 z1
  obtain ⟨rfl, rfl, hr1, hs1⟩ := hq
  have tT1 : ∀ q, q < g + 3 → T1 q = _ := fun q hq => (hr1.1 q hq).1
  have tN1 : ∀ q, q < g + 3 → N1 q = _ := fun q hq => (hr1.1 q hq).2.1
  have tI1 : ∀ q, q < g + 3 → I1 q = _ := fun q hq => (hr1.1 q hq).2.2.1
  have tR1 : ∀ q, q < g + 3 → R1 q = _ := fun q hq => (hr1.1 q hq).2.2.2
  have uT1 : ∀ q, g + 3 + 39 ≤ q → T1 q = _ := fun q hq => hr1.2.1 q hq
  dsimp only [Option.toList, List.nil_append]
  refine x_putO (pc := 30) hC pf_X3_24 dX3_init_30 (Or.inl ⟨_, rfl⟩) (by simp (disch := omega) only [axn_a, axn_s, axu_s, axu_a, axu_j, axu_row, tT1, tN1, tI1, tR1]; exact hg) (fun _ => rfl) ?_
  refine x_aload_n (pc := 33) hC dX3_init_33 rfl ?_
  refine x_new (pc := 34) hC nw_X3_21 dX3_init_34 (by omega) (by omega) ?_
  refine x_dup (pc := 37) hC dX3_init_37 rfl ?_
  refine x_callI (pc := 38) hC ci_X3_23 dX3_init_38 (c_init2 (m := g + 42) axn_s (by omega)) rfl (by decide) (by omega) (by omega) rfl rfl (Nat.le_of_ble_eq_true rfl) (fun _ _ _ _ _ _ hq => ?_)
  rename_i r2 T2 N2 I2 R2 z2
  obtain ⟨rfl, rfl, hr2, hs2⟩ := hq
  have tT2 : ∀ q, q < g + 42 → T2 q = _ := fun q hq => (hr2.1 q hq).1
  have tN2 : ∀ q, q < g + 42 → N2 q = _ := fun q hq => (hr2.1 q hq).2.1
  have tI2 : ∀ q, q < g + 42 → I2 q = _ := fun q hq => (hr2.1 q hq).2.2.1
  have tR2 : ∀ q, q < g + 42 → R2 q = _ := fun q hq => (hr2.1 q hq).2.2.2
  have uT2 : ∀ q, g + 42 + 39 ≤ q → T2 q = _ := fun q hq => hr2.2.1 q hq
  dsimp only [Option.toList, List.nil_append]
  refine x_putO (pc := 41) hC pf_X3_28 dX3_init_41 (Or.inl ⟨_, rfl⟩) (by simp (disch := omega) only [axn_a, axn_s, axu_s, axu_a, axu_j, axu_row, tT1, tN1, tI1, tR1, tT2, tN2, tI2, tR2]; exact hg) (fun _ => rfl) ?_
  refine x_aload_n (pc := 44) hC dX3_init_44 rfl ?_
  refine x_new (pc := 45) hC nw_X3_31 dX3_init_45 (by omega) (by omega) ?_
  refine x_dup (pc := 48) hC dX3_init_48 rfl ?_
  refine x_callI (pc := 49) hC ci_X3_33 dX3_init_49 (c_init4 axn_s) rfl (by decide) (by omega) (by omega) rfl rfl (Nat.le_of_ble_eq_true rfl) (fun _ _ _ _ _ _ hq => ?_)
  obtain ⟨⟨rfl, rfl, rfl⟩, rfl, rfl, rfl⟩ := hq
  dsimp only [Option.toList, List.nil_append]
  refine x_putO (pc := 52) hC pf_X3_34 dX3_init_52 (Or.inl ⟨_, rfl⟩) (by simp (disch := omega) only [axn_a, axn_s, axu_s, axu_a, axu_j, axu_row, tT1, tN1, tI1, tR1, tT2, tN2, tI2, tR2]; exact hg) (fun _ => rfl) ?_
  refine x_aload_n (pc := 55) hC dX3_init_55 rfl ?_
  refine x_new (pc := 56) hC nw_X3_31 dX3_init_56 (by omega) (by omega) ?_
  refine x_dup (pc := 59) hC dX3_init_59 rfl ?_
  refine x_callI (pc := 60) hC ci_X3_33 dX3_init_60 (c_init4 axn_s) rfl (by decide) (by omega) (by omega) rfl rfl (Nat.le_of_ble_eq_true rfl) (fun _ _ _ _ _ _ hq => ?_)
  obtain ⟨⟨rfl, rfl, rfl⟩, rfl, rfl, rfl⟩ := hq
  dsimp only [Option.toList, List.nil_append]
  refine x_putO (pc := 63) hC pf_X3_38 dX3_init_63 (Or.inl ⟨_, rfl⟩) (by simp (disch := omega) only [axn_a, axn_s, axu_s, axu_a, axu_j, axu_row, tT1, tN1, tI1, tR1, tT2, tN2, tI2, tR2]; exact hg) (fun _ => rfl) ?_
  refine x_aload_n (pc := 66) hC dX3_init_66 rfl ?_
  refine x_new (pc := 67) hC nw_X3_31 dX3_init_67 (by omega) (by omega) ?_
  refine x_dup (pc := 70) hC dX3_init_70 rfl ?_
  refine x_callI (pc := 71) hC ci_X3_33 dX3_init_71 (c_init4 axn_s) rfl (by decide) (by omega) (by omega) rfl rfl (Nat.le_of_ble_eq_true rfl) (fun _ _ _ _ _ _ hq => ?_)
  obtain ⟨⟨rfl, rfl, rfl⟩, rfl, rfl, rfl⟩ := hq
  dsimp only [Option.toList, List.nil_append]
  refine x_putO (pc := 74) hC pf_X3_41 dX3_init_74 (Or.inl ⟨_, rfl⟩) (by simp (disch := omega) only [axn_a, axn_s, axu_s, axu_a, axu_j, axu_row, tT1, tN1, tI1, tR1, tT2, tN2, tI2, tR2]; exact hg) (fun _ => rfl) ?_
  refine x_aload_n (pc := 77) hC dX3_init_77 rfl ?_
  refine x_new (pc := 78) hC nw_X3_31 dX3_init_78 (by omega) (by omega) ?_
  refine x_dup (pc := 81) hC dX3_init_81 rfl ?_
  refine x_callI (pc := 82) hC ci_X3_33 dX3_init_82 (c_init4 axn_s) rfl (by decide) (by omega) (by omega) rfl rfl (Nat.le_of_ble_eq_true rfl) (fun _ _ _ _ _ _ hq => ?_)
  obtain ⟨⟨rfl, rfl, rfl⟩, rfl, rfl, rfl⟩ := hq
  dsimp only [Option.toList, List.nil_append]
  refine x_putO (pc := 85) hC pf_X3_44 dX3_init_85 (Or.inl ⟨_, rfl⟩) (by simp (disch := omega) only [axn_a, axn_s, axu_s, axu_a, axu_j, axu_row, tT1, tN1, tI1, tR1, tT2, tN2, tI2, tR2]; exact hg) (fun _ => rfl) ?_
  refine x_aload_n (pc := 88) hC dX3_init_88 rfl ?_
  refine x_new (pc := 89) hC nw_X3_31 dX3_init_89 (by omega) (by omega) ?_
  refine x_dup (pc := 92) hC dX3_init_92 rfl ?_
  refine x_callI (pc := 93) hC ci_X3_33 dX3_init_93 (c_init4 axn_s) rfl (by decide) (by omega) (by omega) rfl rfl (Nat.le_of_ble_eq_true rfl) (fun _ _ _ _ _ _ hq => ?_)
  obtain ⟨⟨rfl, rfl, rfl⟩, rfl, rfl, rfl⟩ := hq
  dsimp only [Option.toList, List.nil_append]
  refine x_putO (pc := 96) hC pf_X3_47 dX3_init_96 (Or.inl ⟨_, rfl⟩) (by simp (disch := omega) only [axn_a, axn_s, axu_s, axu_a, axu_j, axu_row, tT1, tN1, tI1, tR1, tT2, tN2, tI2, tR2]; exact hg) (fun _ => rfl) ?_
  refine x_aload_n (pc := 99) hC dX3_init_99 rfl ?_
  refine x_new (pc := 100) hC nw_X3_31 dX3_init_100 (by omega) (by omega) ?_
  refine x_dup (pc := 103) hC dX3_init_103 rfl ?_
  refine x_callI (pc := 104) hC ci_X3_33 dX3_init_104 (c_init4 axn_s) rfl (by decide) (by omega) (by omega) rfl rfl (Nat.le_of_ble_eq_true rfl) (fun _ _ _ _ _ _ hq => ?_)
  obtain ⟨⟨rfl, rfl, rfl⟩, rfl, rfl, rfl⟩ := hq
  dsimp only [Option.toList, List.nil_append]
  refine x_putO (pc := 107) hC pf_X3_50 dX3_init_107 (Or.inl ⟨_, rfl⟩) (by simp (disch := omega) only [axn_a, axn_s, axu_s, axu_a, axu_j, axu_row, tT1, tN1, tI1, tR1, tT2, tN2, tI2, tR2]; exact hg) (fun _ => rfl) ?_
  refine x_aload_n (pc := 110) hC dX3_init_110 rfl ?_
  refine x_new (pc := 111) hC nw_X3_53 dX3_init_111 (by omega) (by omega) ?_
  refine x_dup (pc := 114) hC dX3_init_114 rfl ?_
  refine x_callI (pc := 115) hC ci_X3_55 dX3_init_115 (c_init8 (s := g + 87) axn_s (by omega)) rfl (by decide) (by omega) (by omega) rfl rfl (Nat.le_of_ble_eq_true rfl) (fun _ _ _ _ _ _ hq => ?_)
  rename_i r3 T3 N3 I3 R3 z3
  obtain ⟨rfl, rfl, hr3, hs3⟩ := hq
  have tT3 : ∀ q, q < g + 87 → T3 q = _ := fun q hq => (hr3.2.1 q (by omega) (by omega)).1
  have tN3 : ∀ q, q < g + 87 → N3 q = _ := fun q hq => (hr3.2.1 q (by omega) (by omega)).2.1
  have tI3 : ∀ q, q < g + 87 → I3 q = _ := fun q hq => (hr3.2.1 q (by omega) (by omega)).2.2.1
  have tR3 : ∀ q, q < g + 87 → R3 q = _ := fun q hq => (hr3.2.1 q (by omega) (by omega)).2.2.2
  have uT3 : ∀ q, g + 87 + 3 ≤ q → T3 q = _ := fun q hq => hr3.2.2.1 q hq
  dsimp only [Option.toList, List.nil_append]
  refine x_putO (pc := 118) hC pf_X3_56 dX3_init_118 (Or.inl ⟨_, rfl⟩) (by simp (disch := omega) only [axn_a, axn_s, axu_s, axu_a, axu_j, axu_row, tT1, tN1, tI1, tR1, tT2, tN2, tI2, tR2, tT3, tN3, tI3, tR3]; exact hg) (fun _ => rfl) ?_
  refine x_aload_n (pc := 121) hC dX3_init_121 rfl ?_
  refine x_new (pc := 122) hC nw_X3_53 dX3_init_122 (by omega) (by omega) ?_
  refine x_dup (pc := 125) hC dX3_init_125 rfl ?_
  refine x_callI (pc := 126) hC ci_X3_55 dX3_init_126 (c_init8 (s := g + 90) axn_s (by omega)) rfl (by decide) (by omega) (by omega) rfl rfl (Nat.le_of_ble_eq_true rfl) (fun _ _ _ _ _ _ hq => ?_)
  rename_i r4 T4 N4 I4 R4 z4
  obtain ⟨rfl, rfl, hr4, hs4⟩ := hq
  have tT4 : ∀ q, q < g + 90 → T4 q = _ := fun q hq => (hr4.2.1 q (by omega) (by omega)).1
  have tN4 : ∀ q, q < g + 90 → N4 q = _ := fun q hq => (hr4.2.1 q (by omega) (by omega)).2.1
  have tI4 : ∀ q, q < g + 90 → I4 q = _ := fun q hq => (hr4.2.1 q (by omega) (by omega)).2.2.1
  have tR4 : ∀ q, q < g + 90 → R4 q = _ := fun q hq => (hr4.2.1 q (by omega) (by omega)).2.2.2
  have uT4 : ∀ q, g + 90 + 3 ≤ q → T4 q = _ := fun q hq => hr4.2.2.1 q hq
  dsimp only [Option.toList, List.nil_append]
  refine x_putO (pc := 129) hC pf_X3_60 dX3_init_129 (Or.inl ⟨_, rfl⟩) (by simp (disch := omega) only [axn_a, axn_s, axu_s, axu_a, axu_j, axu_row, tT1, tN1, tI1, tR1, tT2, tN2, tI2, tR2, tT3, tN3, tI3, tR3, tT4, tN4, tI4, tR4]; exact hg) (fun _ => rfl) ?_
  refine x_aload_n (pc := 132) hC dX3_init_132 rfl ?_
  refine x_aload_n (pc := 133) hC dX3_init_133 rfl ?_
  refine x_getO (pc := 134) hC gf_X3_56 dX3_init_134 (by simp (disch := omega) only [axn_a, axn_s, axu_s, axu_a, axu_j, axu_row, tT1, tN1, tI1, tR1, tT2, tN2, tI2, tR2, tT3, tN3, tI3, tR3, tT4, tN4, tI4, tR4]; exact hg) (show _ = some (g + 87) from by simp (disch := omega) only [axn_a, axn_s, axu_s, axu_a, axu_j, axu_row, tT1, tN1, tI1, tR1, tT2, tN2, tI2, tR2, tT3, tN3, tI3, tR3, tT4, tN4, tI4, tR4]) ?_
  refine x_putO (pc := 137) hC pf_X3_63 dX3_init_137 (Or.inl ⟨_, rfl⟩) (by simp (disch := omega) only [axn_a, axn_s, axu_s, axu_a, axu_j, axu_row, tT1, tN1, tI1, tR1, tT2, tN2, tI2, tR2, tT3, tN3, tI3, tR3, tT4, tN4, tI4, tR4]; exact hg) (fun _ => rfl) ?_
  refine x_vret (pc := 140) hC rfl dX3_init_140 ?_
  refine ⟨rfl, by omega, ⟨fun q hq => ⟨?_, ?_, ?_, ?_⟩, fun q hq => ?_, ?_, ?_⟩, ⟨?_, ⟨?_, ?_, ?_⟩, ⟨?_, ?_, ?_⟩, ⟨?_, mtT_eq hs1 (fun q h1 h2 => ⟨?_, ?_, ?_⟩)⟩, ⟨?_, mtT_eq hs2 (fun q h1 h2 => ⟨?_, ?_, ?_⟩)⟩, ⟨?_, ?_⟩, ⟨?_, ?_⟩, ⟨?_, ?_⟩, ⟨?_, ?_⟩, ⟨?_, ?_⟩, ⟨?_, ?_⟩, ⟨?_, shT_eq hs3 (fun q h1 h2 => ⟨?_, ?_, ?_⟩)⟩, ?_, shT_eq hs4 (fun q h1 h2 => ⟨?_, ?_, ?_⟩)⟩, ?_, ?_, fun j => ?_⟩
  all_goals first | (simp (disch := omega) only [axn_a, axn_s, axu_s, axu_a, axu_j, axu_row, tT1, tN1, tI1, tR1, tT2, tN2, tI2, tR2, tT3, tN3, tI3, tR3, tT4, tN4, tI4, tR4, uT1, uT2, uT3, uT4]; done) | (simp (disch := omega) only [axn_a, axn_s, axu_s, axu_a, axu_j, axu_row, tT1, tN1, tI1, tR1, tT2, tN2, tI2, tR2, tT3, tN3, tI3, tR3, tT4, tN4, tI4, tR4, uT1, uT2, uT3, uT4]; exact hg)

