/-! THE CLASS: what a commit does as its kind; slots -/
def kdT (n : Nat) : Int := if n = 5 then 0 else if n = 1 then 1 else 2

set_option maxHeartbeats 4000000 in
set_option maxRecDepth 100000 in
theorem c_kindX5 {G : ax_G} {T : Nat → Nat} {N : Nat → Int} {I : Nat → Int → Int} {R : Nat → Int → Option Nat} {z : Nat} {x : Nat} : axE G YX5_kind 0 [vR x] T N I R z (some (vI 0)) I := by
  refine ax_enter (by decide) (Nat.le_of_ble_eq_true rfl) (ax_cat rfl) (fun f hC => ?_)
  show axX G f 0 0 _ 0 [vR x] [] T N I R z 0 0
  refine x_iconst (pc := 0) hC dX5_kind_0 ?_
  refine x_iret (pc := 1) hC rfl dX5_kind_1 ?_
  exact ⟨rfl, rfl, rfl, rfl, rfl, rfl⟩
set_option maxHeartbeats 4000000 in
set_option maxRecDepth 100000 in
theorem c_kindX1 {G : ax_G} {T : Nat → Nat} {N : Nat → Int} {I : Nat → Int → Int} {R : Nat → Int → Option Nat} {z : Nat} {x : Nat} : axE G YX1_kind 0 [vR x] T N I R z (some (vI 1)) I := by
  refine ax_enter (by decide) (Nat.le_of_ble_eq_true rfl) (ax_cat rfl) (fun f hC => ?_)
  show axX G f 0 0 _ 0 [vR x] [] T N I R z 0 0
  refine x_iconst (pc := 0) hC dX1_kind_0 ?_
  refine x_iret (pc := 1) hC rfl dX1_kind_1 ?_
  exact ⟨rfl, rfl, rfl, rfl, rfl, rfl⟩
set_option maxHeartbeats 4000000 in
set_option maxRecDepth 100000 in
theorem c_kindX0 {G : ax_G} {T : Nat → Nat} {N : Nat → Int} {I : Nat → Int → Int} {R : Nat → Int → Option Nat} {z : Nat} {x : Nat} : axE G YX0_kind 0 [vR x] T N I R z (some (vI 2)) I := by
  refine ax_enter (by decide) (Nat.le_of_ble_eq_true rfl) (ax_cat rfl) (fun f hC => ?_)
  show axX G f 0 0 _ 0 [vR x] [] T N I R z 0 0
  refine x_iconst (pc := 0) hC dX0_kind_0 ?_
  refine x_iret (pc := 1) hC rfl dX0_kind_1 ?_
  exact ⟨rfl, rfl, rfl, rfl, rfl, rfl⟩
set_option maxHeartbeats 4000000 in
set_option maxRecDepth 100000 in
theorem c_speakPlainly {G : ax_G} {T : Nat → Nat} {N : Nat → Int} {I : Nat → Int → Int} {R : Nat → Int → Option Nat} {z : Nat} {x t r : Nat} (hx : pT (T x)) (hxt : R x 0 = some t) (ht : T t = 10) (hr : R x 4 = some r) (hrt : T r = 13) : axE G YX5_speakPlainly 1 [vR x] T N I R z (some (vI (N r))) (ax_u I t 0 (31 * I t 0 + 11)) := by

  refine ax_enter (by decide) (Nat.le_of_ble_eq_true rfl) (ax_cat rfl) (fun f hC => ?_)
  show axX G f 0 0 _ 0 [vR x] [] T N I R z 0 0
  refine x_aload_n (pc := 0) hC dX5_speakPlainly_0 rfl ?_
  refine x_getO (pc := 1) hC (gp_X5_9 hx) dX5_speakPlainly_1 rfl hxt ?_
  refine x_bipush (pc := 4) hC dX5_speakPlainly_4 (by decide) ?_
  refine x_mV (pc := 6) hC cv_X5_30 dX5_speakPlainly_6 (c_leave ht) ht rfl (by decide) rfl rfl (Nat.le_of_ble_eq_true rfl) ?_
  dsimp only [Option.toList, List.nil_append]
  refine x_aload_n (pc := 9) hC dX5_speakPlainly_9 rfl ?_
  refine x_getO (pc := 10) hC (gp_X5_26 hx) dX5_speakPlainly_10 rfl hr ?_
  refine x_alen (pc := 13) hC dX5_speakPlainly_13 (by rw [hrt]; decide) (by rw [hrt]; decide) ?_
  refine x_iret (pc := 14) hC rfl dX5_speakPlainly_14 ?_
  exact ⟨rfl, rfl, rfl, rfl, rfl, rfl⟩

set_option maxHeartbeats 4000000 in
set_option maxRecDepth 100000 in
theorem c_speak5 {G : ax_G} {T : Nat → Nat} {N : Nat → Int} {I : Nat → Int → Int} {R : Nat → Int → Option Nat} {z : Nat} {x t r : Nat} (hx : pT (T x)) (hxt : R x 0 = some t) (ht : T t = 10) (hr : R x 4 = some r) (hrt : T r = 13) : axE G YX5_speak 2 [vR x] T N I R z (some (vI (N r))) (ax_u I t 0 (31 * I t 0 + 11)) := by

  refine ax_enter (by decide) (Nat.le_of_ble_eq_true rfl) (ax_cat rfl) (fun f hC => ?_)
  show axX G f 0 0 _ 0 [vR x] [] T N I R z 0 0
  refine x_aload_n (pc := 0) hC dX5_speak_0 rfl ?_
  refine x_mU (pc := 1) hC (cq_X5_36 hx) dX5_speak_1 (c_speakPlainly hx hxt ht hr hrt) rfl rfl (by decide) rfl rfl (Nat.le_of_ble_eq_true rfl) ?_
  dsimp only [Option.toList, List.cons_append, List.nil_append]
  refine x_iret (pc := 4) hC rfl dX5_speak_4 ?_
  exact ⟨rfl, rfl, rfl, rfl, rfl, rfl⟩

set_option maxHeartbeats 4000000 in
set_option maxRecDepth 100000 in
theorem c_speak1 {G : ax_G} {T : Nat → Nat} {N : Nat → Int} {I : Nat → Int → Int} {R : Nat → Int → Option Nat} {z : Nat} {x t r : Nat} (hx : T x = 1) (hxt : R x 0 = some t) (ht : T t = 10) (hr : R x 4 = some r) (hrt : T r = 13) : axE G YX1_speak 2 [vR x] T N I R z (some (vI (N r + 100))) (ax_u I t 0 (31 * (31 * I t 0 + 12) + 11)) := by

  refine ax_enter (by decide) (Nat.le_of_ble_eq_true rfl) (ax_cat rfl) (fun f hC => ?_)
  show axX G f 0 0 _ 0 [vR x] [] T N I R z 0 0
  have hx5 : pT (T x) := by unfold pT; omega
  refine x_aload_n (pc := 0) hC dX1_speak_0 rfl ?_
  refine x_getO (pc := 1) hC (gp_X1_15 hx5) dX1_speak_1 rfl hxt ?_
  refine x_bipush (pc := 4) hC dX1_speak_4 (by decide) ?_
  refine x_mV (pc := 6) hC cv_X1_9 dX1_speak_6 (c_leave ht) ht rfl (by decide) rfl rfl (Nat.le_of_ble_eq_true rfl) ?_
  dsimp only [Option.toList, List.nil_append]
  refine x_aload_n (pc := 9) hC dX1_speak_9 rfl ?_
  refine x_mU (pc := 10) hC cu_X1_21_1 dX1_speak_10 (c_speakPlainly hx5 hxt ht hr hrt) hx rfl (by decide) rfl rfl (Nat.le_of_ble_eq_true rfl) ?_
  dsimp only [Option.toList, List.cons_append, List.nil_append]
  refine x_bipush (pc := 13) hC dX1_speak_13 (by decide) ?_
  refine x_iadd (pc := 15) hC dX1_speak_15 ?_
  refine x_iret (pc := 16) hC rfl dX1_speak_16 ?_
  refine ⟨rfl, rfl, rfl, ?_, rfl, rfl⟩
  rw [axu_s, axu_uu]

set_option maxHeartbeats 4000000 in
set_option maxRecDepth 100000 in
theorem c_speak0 {G : ax_G} {T : Nat → Nat} {N : Nat → Int} {I : Nat → Int → Int} {R : Nat → Int → Option Nat} {z : Nat} {x t r : Nat} (hx : T x = 0) (hxt : R x 0 = some t) (ht : T t = 10) (hr : R x 4 = some r) (hrt : T r = 13) : axE G YX0_speak 2 [vR x] T N I R z (some (vI (N r + 200))) (ax_u I t 0 (31 * (31 * I t 0 + 13) + 11)) := by

  refine ax_enter (by decide) (Nat.le_of_ble_eq_true rfl) (ax_cat rfl) (fun f hC => ?_)
  show axX G f 0 0 _ 0 [vR x] [] T N I R z 0 0
  have hx5 : pT (T x) := by unfold pT; omega
  refine x_aload_n (pc := 0) hC dX0_speak_0 rfl ?_
  refine x_getO (pc := 1) hC (gp_X0_15 hx5) dX0_speak_1 rfl hxt ?_
  refine x_bipush (pc := 4) hC dX0_speak_4 (by decide) ?_
  refine x_mV (pc := 6) hC cv_X0_9 dX0_speak_6 (c_leave ht) ht rfl (by decide) rfl rfl (Nat.le_of_ble_eq_true rfl) ?_
  dsimp only [Option.toList, List.nil_append]
  refine x_aload_n (pc := 9) hC dX0_speak_9 rfl ?_
  refine x_mU (pc := 10) hC cu_X0_21_0 dX0_speak_10 (c_speakPlainly hx5 hxt ht hr hrt) hx rfl (by decide) rfl rfl (Nat.le_of_ble_eq_true rfl) ?_
  dsimp only [Option.toList, List.cons_append, List.nil_append]
  refine x_sipush (pc := 13) hC dX0_speak_13 (by decide) ?_
  refine x_iadd (pc := 16) hC dX0_speak_16 ?_
  refine x_iret (pc := 17) hC rfl dX0_speak_17 ?_
  refine ⟨rfl, rfl, rfl, ?_, rfl, rfl⟩
  rw [axu_s, axu_uu]

section CK
variable {G : ax_G} {f : ax_F} {Y : ax_Y} {d mc ms : Nat} {Q : ax_P} {pc : Nat} {L st : List ax_V} {T : Nat → Nat} {N : Nat → Int} {I : Nat → Int → Int} {R : Nat → Int → Option Nat} {z k n : Nat}
theorem x_kind (hC : axC G f Y RX11 d mc ms) {b : Nat} (hb : pT (T b)) (hd : decode Y.2.1 pc = .ok (.invokevirtual 126, 3)) (hd1 : 1 ≤ d) (hLl : L.length = Y.2.2.1) (hcat : ((st.map axv).map fun v => v.category).sum ≤ 8) (kk : axX G f mc ms Q (pc + 3) L (vI (kdT (T b)) :: st) T N I R z k n) : axX G f mc ms Q pc L (vR b :: st) T N I R z k n := by
  rcases hb with h | h | h
  · rw [h] at kk
    exact x_mU hC cu_X11_126_0 hd c_kindX0 h rfl hd1 rfl hLl hcat kk
  · rw [h] at kk
    exact x_mU hC cu_X11_126_1 hd c_kindX1 h rfl hd1 rfl hLl hcat kk
  · rw [h] at kk
    exact x_mU hC cu_X11_126_5 hd c_kindX5 h rfl hd1 rfl hLl hcat kk
theorem x_speak (hC : axC G f Y RX11 d mc ms) {b t r : Nat} (hb : pT (T b)) (hxt : R b 0 = some t) (ht : T t = 10) (hr : R b 4 = some r) (hrt : T r = 13) (hd : decode Y.2.1 pc = .ok (.invokevirtual 352, 3)) (hd1 : 3 ≤ d) (hLl : L.length = Y.2.2.1) (hcat : ((st.map axv).map fun v => v.category).sum ≤ 8) (kk : axX G f mc ms Q (pc + 3) L (vI (N r + 100 * kdT (T b)) :: st) T N (ax_u I t 0 (31 * (if 0 < kdT (T b) then 31 * I t 0 + (if kdT (T b) = 1 then 12 else 13) else I t 0) + 11)) R z k n) : axX G f mc ms Q pc L (vR b :: st) T N I R z k n := by
  rcases hb with h | h | h
  · rw [h] at kk
    exact x_mU hC cu_X11_352_0 hd (c_speak0 h hxt ht hr hrt) h rfl hd1 rfl hLl hcat kk
  · rw [h] at kk
    exact x_mU hC cu_X11_352_1 hd (c_speak1 h hxt ht hr hrt) h rfl hd1 rfl hLl hcat kk
  · rw [h] at kk
    have e : N r + 100 * kdT 5 = N r := by show N r + 100 * 0 = N r; omega
    rw [e] at kk
    exact x_mU hC cu_X11_352_5 hd (c_speak5 (by rw [h]; decide) hxt ht hr hrt) h rfl hd1 rfl hLl hcat kk
end CK

set_option maxHeartbeats 4000000 in
set_option maxRecDepth 100000 in
theorem c_init5 {G : ax_G} {T : Nat → Nat} {N : Nat → Int} {I : Nat → Int → Int} {R : Nat → Int → Option Nat} {z : Nat} {x t : Nat} {n : Int} {p q r : Option Nat} (hx : pT (T x)) (ht : T t = 10) : axR G YX5_init 1 [vR x, vR t, vI n, vO p, vO r, vO q] T N I R z (fun r1 I1 R1 => r1 = none ∧ I1 = ax_u (ax_u I x 1 n) t 0 (mdT 0 (if q = none then -9 else 0) (I t 0)) ∧ R1 = ax_u (ax_u (ax_u (ax_u R x 0 (some t)) x 2 p) x 3 q) x 4 r) := by

  refine ax_enter (by decide) (Nat.le_of_ble_eq_true rfl) (ax_cat (by cases p <;> cases q <;> cases r <;> rfl)) (fun f hC => ?_)
  show axX G f 0 0 _ 0 [vR x, vR t, vI n, vO p, vO r, vO q] [] T N I R z 0 0
  have hxt : t ≠ x := fun h => by rw [h] at ht; rcases hx with h | h | h <;> omega
  refine x_aload_n (pc := 0) hC dX5_init_0 rfl ?_
  refine x_objInit (pc := 1) hC oi_X5_3 w_oinst w_ocode dX5_init_1 (by decide) rfl (Nat.le_of_ble_eq_true rfl) ?_
  refine x_aload_n (pc := 4) hC dX5_init_4 rfl ?_
  refine x_aload_n (pc := 5) hC dX5_init_5 rfl ?_
  refine x_putO (pc := 6) hC (pp_X5_9 hx) dX5_init_6 (Or.inl ⟨_, rfl⟩) rfl (fun _ => rfl) ?_
  refine x_aload_n (pc := 9) hC dX5_init_9 rfl ?_
  refine x_iload_n (pc := 10) hC dX5_init_10 rfl ?_
  refine x_putI (pc := 11) hC (pp_X5_15 hx) dX5_init_11 rfl (fun _ => rfl) ?_
  refine x_aload_n (pc := 14) hC dX5_init_14 rfl ?_
  refine x_aload_n (pc := 15) hC dX5_init_15 rfl ?_
  refine x_putO (pc := 16) hC (pp_X5_19 hx) dX5_init_16 (Or.inl ⟨_, rfl⟩) rfl (fun _ => rfl) ?_
  refine x_aload_n (pc := 19) hC dX5_init_19 rfl ?_
  refine x_aload (pc := 20) hC dX5_init_20 rfl ?_
  refine x_putO (pc := 22) hC (pp_X5_23 hx) dX5_init_22 (Or.inl ⟨_, rfl⟩) rfl (fun _ => rfl) ?_
  refine x_aload_n (pc := 25) hC dX5_init_25 rfl ?_
  refine x_aload (pc := 26) hC dX5_init_26 rfl ?_
  refine x_putO (pc := 28) hC (pp_X5_26 hx) dX5_init_28 (Or.inr ⟨_, rfl⟩) rfl (fun _ => rfl) ?_
  refine x_aload_n (pc := 31) hC dX5_init_31 rfl ?_
  refine x_iconst (pc := 32) hC dX5_init_32 ?_
  refine x_mV (pc := 33) hC cv_X5_30 dX5_init_33 (c_leave ht) ht rfl (by decide) rfl rfl (Nat.le_of_ble_eq_true rfl) ?_
  dsimp only [Option.toList, List.nil_append]
  refine x_aload_n (pc := 36) hC dX5_init_36 rfl ?_
  refine x_iconst (pc := 37) hC dX5_init_37 ?_
  refine x_mV (pc := 38) hC cv_X5_30 dX5_init_38 (c_leave ht) ht rfl (by decide) rfl rfl (Nat.le_of_ble_eq_true rfl) ?_
  dsimp only [Option.toList, List.nil_append]
  refine x_aload (pc := 41) hC dX5_init_41 rfl ?_
  refine x_ifnonnull (pc := 43) hC 52 dX5_init_43 (by decide) (fun q43 b43 => ?_) (fun b43 => ?_)
  · refine x_vret (pc := 52) hC rfl dX5_init_52 ?_
    refine ⟨⟨rfl, ?_, rfl⟩, rfl, rfl, rfl⟩
    first
    | (rw [if_pos b43]; simp only [axu_s, axu_a hxt, axu_uu]; rfl)
    | (rw [if_neg (by rw [b43]; exact fun h => by cases h)]; simp only [axu_s, axu_a hxt, axu_uu]; rfl)
  · refine x_aload_n (pc := 46) hC dX5_init_46 rfl ?_
    refine x_bipush (pc := 47) hC dX5_init_47 (by decide) ?_
    refine x_mV (pc := 49) hC cv_X5_30 dX5_init_49 (c_leave ht) ht rfl (by decide) rfl rfl (Nat.le_of_ble_eq_true rfl) ?_
    dsimp only [Option.toList, List.nil_append]
    refine x_vret (pc := 52) hC rfl dX5_init_52 ?_
    refine ⟨⟨rfl, ?_, rfl⟩, rfl, rfl, rfl⟩
    first
    | (rw [if_pos b43]; simp only [axu_s, axu_a hxt, axu_uu]; rfl)
    | (rw [if_neg (by rw [b43]; exact fun h => by cases h)]; simp only [axu_s, axu_a hxt, axu_uu]; rfl)

set_option maxHeartbeats 4000000 in
set_option maxRecDepth 100000 in
theorem c_init1 {G : ax_G} {T : Nat → Nat} {N : Nat → Int} {I : Nat → Int → Int} {R : Nat → Int → Option Nat} {z : Nat} {x t : Nat} {n : Int} {p q r : Option Nat} (hx : T x = 1 ∨ T x = 0) (ht : T t = 10) : axR G YX1_init 2 [vR x, vR t, vI n, vO p, vO r, vO q] T N I R z (fun r1 I1 R1 => r1 = none ∧ I1 = ax_u (ax_u I x 1 n) t 0 (mdT 1 (if q = none then -9 else 0) (I t 0)) ∧ R1 = ax_u (ax_u (ax_u (ax_u R x 0 (some t)) x 2 p) x 3 q) x 4 r) := by

  refine ax_enter (by decide) (Nat.le_of_ble_eq_true rfl) (ax_cat (by cases p <;> cases q <;> cases r <;> rfl)) (fun f hC => ?_)
  show axX G f 0 0 _ 0 [vR x, vR t, vI n, vO p, vO r, vO q] [] T N I R z 0 0
  have hxt : t ≠ x := fun h => by rw [h] at ht; omega
  refine x_aload_n (pc := 0) hC dX1_init_0 rfl ?_
  refine x_aload_n (pc := 1) hC dX1_init_1 rfl ?_
  refine x_iload_n (pc := 2) hC dX1_init_2 rfl ?_
  refine x_aload_n (pc := 3) hC dX1_init_3 rfl ?_
  refine x_aload (pc := 4) hC dX1_init_4 rfl ?_
  refine x_aload (pc := 6) hC dX1_init_6 rfl ?_
  refine x_callI (pc := 8) hC ci_X1_3 dX1_init_8 (c_init5 (by unfold pT; omega) ht) rfl (by decide) (by omega) (by omega) rfl rfl (Nat.le_of_ble_eq_true rfl) (fun _ _ _ _ _ _ hq => ?_)
  obtain ⟨⟨rfl, rfl, rfl⟩, rfl, rfl, rfl⟩ := hq
  dsimp only [Option.toList, List.nil_append]
  refine x_aload_n (pc := 11) hC dX1_init_11 rfl ?_
  refine x_iconst (pc := 12) hC dX1_init_12 ?_
  refine x_mV (pc := 13) hC cv_X1_9 dX1_init_13 (c_leave ht) ht rfl (by decide) rfl rfl (Nat.le_of_ble_eq_true rfl) ?_
  dsimp only [Option.toList, List.nil_append]
  refine x_aload_n (pc := 16) hC dX1_init_16 rfl ?_
  refine x_iconst (pc := 17) hC dX1_init_17 ?_
  refine x_mV (pc := 18) hC cv_X1_9 dX1_init_18 (c_leave ht) ht rfl (by decide) rfl rfl (Nat.le_of_ble_eq_true rfl) ?_
  dsimp only [Option.toList, List.nil_append]
  refine x_vret (pc := 21) hC rfl dX1_init_21 ?_
  refine ⟨⟨rfl, ?_, rfl⟩, rfl, rfl, rfl⟩
  simp only [axu_s, axu_uu]
  rfl

set_option maxHeartbeats 4000000 in
set_option maxRecDepth 100000 in
theorem c_init0 {G : ax_G} {T : Nat → Nat} {N : Nat → Int} {I : Nat → Int → Int} {R : Nat → Int → Option Nat} {z : Nat} {x t : Nat} {n : Int} {p q r : Option Nat} (hx : T x = 0) (ht : T t = 10) : axR G YX0_init 3 [vR x, vR t, vI n, vO p, vO r, vO q] T N I R z (fun r1 I1 R1 => r1 = none ∧ I1 = ax_u (ax_u I x 1 n) t 0 (mdT 2 (if q = none then -9 else 0) (I t 0)) ∧ R1 = ax_u (ax_u (ax_u (ax_u R x 0 (some t)) x 2 p) x 3 q) x 4 r) := by

  refine ax_enter (by decide) (Nat.le_of_ble_eq_true rfl) (ax_cat (by cases p <;> cases q <;> cases r <;> rfl)) (fun f hC => ?_)
  show axX G f 0 0 _ 0 [vR x, vR t, vI n, vO p, vO r, vO q] [] T N I R z 0 0
  have hxt : t ≠ x := fun h => by rw [h] at ht; omega
  refine x_aload_n (pc := 0) hC dX0_init_0 rfl ?_
  refine x_aload_n (pc := 1) hC dX0_init_1 rfl ?_
  refine x_iload_n (pc := 2) hC dX0_init_2 rfl ?_
  refine x_aload_n (pc := 3) hC dX0_init_3 rfl ?_
  refine x_aload (pc := 4) hC dX0_init_4 rfl ?_
  refine x_aload (pc := 6) hC dX0_init_6 rfl ?_
  refine x_callI (pc := 8) hC ci_X0_3 dX0_init_8 (c_init1 (Or.inr hx) ht) rfl (by decide) (by omega) (by omega) rfl rfl (Nat.le_of_ble_eq_true rfl) (fun _ _ _ _ _ _ hq => ?_)
  obtain ⟨⟨rfl, rfl, rfl⟩, rfl, rfl, rfl⟩ := hq
  dsimp only [Option.toList, List.nil_append]
  refine x_aload_n (pc := 11) hC dX0_init_11 rfl ?_
  refine x_iconst (pc := 12) hC dX0_init_12 ?_
  refine x_mV (pc := 13) hC cv_X0_9 dX0_init_13 (c_leave ht) ht rfl (by decide) rfl rfl (Nat.le_of_ble_eq_true rfl) ?_
  dsimp only [Option.toList, List.nil_append]
  refine x_aload_n (pc := 16) hC dX0_init_16 rfl ?_
  refine x_bipush (pc := 17) hC dX0_init_17 (by decide) ?_
  refine x_mV (pc := 19) hC cv_X0_9 dX0_init_19 (c_leave ht) ht rfl (by decide) rfl rfl (Nat.le_of_ble_eq_true rfl) ?_
  dsimp only [Option.toList, List.nil_append]
  refine x_vret (pc := 22) hC rfl dX0_init_22 ?_
  refine ⟨⟨rfl, ?_, rfl⟩, rfl, rfl, rfl⟩
  simp only [axu_s, axu_uu]
  rfl

def kdO (T : Nat → Nat) (x : Option Nat) : Int := match x with
  | none => -1
  | some q => kdT (T q)
/-- a slot is of this sort -/
def osP (T : Nat → Nat) (I : Nat → Int → Int) (R : Nat → Int → Option Nat) (s : Nat) (w : Int) : Prop := if w = 0 then R s 0 ≠ none ∧ I s 1 = 1 else if w = 1 then R s 0 ≠ none ∧ I s 1 = 0 else w - 2 ≤ kdO T (R s 2)

set_option maxHeartbeats 4000000 in
set_option maxRecDepth 100000 in
theorem c_isOfSort {G : ax_G} {T : Nat → Nat} {N : Nat → Int} {I : Nat → Int → Int} {R : Nat → Int → Option Nat} {z : Nat} {s : Nat} {w : Int} (hs : T s = 9) (hn : I s 1 = 0 ∨ I s 1 = 1) (hw : 0 ≤ w ∧ w ≤ 4) (hc : ∀ q, R s 2 = some q → pT (T q)) [Decidable (osP T I R s w)] : axE G YX9_isOfSort 0 [vR s, vI w] T N I R z (some (vI (bI (osP T I R s w)))) I := by

  refine ax_enter (by decide) (Nat.le_of_ble_eq_true rfl) (ax_cat rfl) (fun f hC => ?_)
  show axX G f 0 0 _ 0 [vR s, vI w] [] T N I R z 0 0
  refine x_iload_n (pc := 0) hC dX9_isOfSort_0 rfl ?_
  by_cases t1_0 : w = 0
  · refine x_tswIn (pc := 1) hC 32 dX9_isOfSort_1 (by omega) (by omega) (by omega) (by rw [t1_0]; rfl) (by decide) ?_
    refine x_aload_n (pc := 32) hC dX9_isOfSort_32 rfl ?_
    refine x_getO (pc := 33) hC gf_X9_9 dX9_isOfSort_33 hs rfl ?_
    refine x_ifnull (pc := 36) hC 50 dX9_isOfSort_36 (by decide) (fun b36 => ?_) (fun q36 b36 => ?_)
    · refine x_iconst (pc := 50) hC dX9_isOfSort_50 ?_
      refine x_zret (pc := 51) hC rfl dX9_isOfSort_51 (Or.inl rfl) ?_
      refine ⟨?_, rfl, rfl, rfl, rfl, rfl⟩
      have k1 : I s 1 = 1 → R s 0 ≠ none → osP T I R s w := fun h1 h2 => by unfold osP; rw [if_pos t1_0]; exact ⟨h2, h1⟩
      first
      | (rw [bI_f (P := osP T I R s w) (fun h9 => by unfold osP at h9; rw [if_pos t1_0] at h9; omega)]; done)
      | (rw [bI_t (k1 (by omega) (by rw [b36]; exact fun h => by cases h))]; done)
      | (rw [bI_f (P := osP T I R s w) (fun h9 => by unfold osP at h9; rw [if_pos t1_0] at h9; exact h9.1 b36)]; done)
    · refine x_aload_n (pc := 39) hC dX9_isOfSort_39 rfl ?_
      refine x_getI (pc := 40) hC gf_X9_19 dX9_isOfSort_40 hs ?_
      refine x_if_eq (pc := 43) hC 50 dX9_isOfSort_43 (by decide) (by omega) (fun b43 => ?_) (fun b43 => ?_)
      · refine x_iconst (pc := 50) hC dX9_isOfSort_50 ?_
        refine x_zret (pc := 51) hC rfl dX9_isOfSort_51 (Or.inl rfl) ?_
        refine ⟨?_, rfl, rfl, rfl, rfl, rfl⟩
        have k1 : I s 1 = 1 → R s 0 ≠ none → osP T I R s w := fun h1 h2 => by unfold osP; rw [if_pos t1_0]; exact ⟨h2, h1⟩
        first
        | (rw [bI_f (P := osP T I R s w) (fun h9 => by unfold osP at h9; rw [if_pos t1_0] at h9; omega)]; done)
        | (rw [bI_t (k1 (by omega) (by rw [b36]; exact fun h => by cases h))]; done)
        | (rw [bI_f (P := osP T I R s w) (fun h9 => by unfold osP at h9; rw [if_pos t1_0] at h9; exact h9.1 b36)]; done)
      · refine x_iconst (pc := 46) hC dX9_isOfSort_46 ?_
        refine x_goto (pc := 47) hC 51 dX9_isOfSort_47 (by decide) ?_
        refine x_zret (pc := 51) hC rfl dX9_isOfSort_51 (Or.inr rfl) ?_
        refine ⟨?_, rfl, rfl, rfl, rfl, rfl⟩
        have k1 : I s 1 = 1 → R s 0 ≠ none → osP T I R s w := fun h1 h2 => by unfold osP; rw [if_pos t1_0]; exact ⟨h2, h1⟩
        first
        | (rw [bI_f (P := osP T I R s w) (fun h9 => by unfold osP at h9; rw [if_pos t1_0] at h9; omega)]; done)
        | (rw [bI_t (k1 (by omega) (by rw [b36]; exact fun h => by cases h))]; done)
        | (rw [bI_f (P := osP T I R s w) (fun h9 => by unfold osP at h9; rw [if_pos t1_0] at h9; exact h9.1 b36)]; done)
  · skip
    by_cases t1_1 : w = 1
    · refine x_tswIn (pc := 1) hC 52 dX9_isOfSort_1 (by omega) (by omega) (by omega) (by rw [t1_1]; rfl) (by decide) ?_
      refine x_aload_n (pc := 52) hC dX9_isOfSort_52 rfl ?_
      refine x_getO (pc := 53) hC gf_X9_9 dX9_isOfSort_53 hs rfl ?_
      refine x_ifnull (pc := 56) hC 70 dX9_isOfSort_56 (by decide) (fun b56 => ?_) (fun q56 b56 => ?_)
      · refine x_iconst (pc := 70) hC dX9_isOfSort_70 ?_
        refine x_zret (pc := 71) hC rfl dX9_isOfSort_71 (Or.inl rfl) ?_
        refine ⟨?_, rfl, rfl, rfl, rfl, rfl⟩
        have k1 : I s 1 = 0 → R s 0 ≠ none → osP T I R s w := fun h1 h2 => by unfold osP; rw [if_neg t1_0, if_pos t1_1]; exact ⟨h2, h1⟩
        first
        | (rw [bI_f (P := osP T I R s w) (fun h9 => by unfold osP at h9; rw [if_neg t1_0, if_pos t1_1] at h9; omega)]; done)
        | (rw [bI_t (k1 (by omega) (by rw [b56]; exact fun h => by cases h))]; done)
        | (rw [bI_f (P := osP T I R s w) (fun h9 => by unfold osP at h9; rw [if_neg t1_0, if_pos t1_1] at h9; exact h9.1 b56)]; done)
      · refine x_aload_n (pc := 59) hC dX9_isOfSort_59 rfl ?_
        refine x_getI (pc := 60) hC gf_X9_19 dX9_isOfSort_60 hs ?_
        refine x_if_ne (pc := 63) hC 70 dX9_isOfSort_63 (by decide) (by omega) (fun b63 => ?_) (fun b63 => ?_)
        · refine x_iconst (pc := 70) hC dX9_isOfSort_70 ?_
          refine x_zret (pc := 71) hC rfl dX9_isOfSort_71 (Or.inl rfl) ?_
          refine ⟨?_, rfl, rfl, rfl, rfl, rfl⟩
          have k1 : I s 1 = 0 → R s 0 ≠ none → osP T I R s w := fun h1 h2 => by unfold osP; rw [if_neg t1_0, if_pos t1_1]; exact ⟨h2, h1⟩
          first
          | (rw [bI_f (P := osP T I R s w) (fun h9 => by unfold osP at h9; rw [if_neg t1_0, if_pos t1_1] at h9; omega)]; done)
          | (rw [bI_t (k1 (by omega) (by rw [b56]; exact fun h => by cases h))]; done)
          | (rw [bI_f (P := osP T I R s w) (fun h9 => by unfold osP at h9; rw [if_neg t1_0, if_pos t1_1] at h9; exact h9.1 b56)]; done)
        · refine x_iconst (pc := 66) hC dX9_isOfSort_66 ?_
          refine x_goto (pc := 67) hC 71 dX9_isOfSort_67 (by decide) ?_
          refine x_zret (pc := 71) hC rfl dX9_isOfSort_71 (Or.inr rfl) ?_
          refine ⟨?_, rfl, rfl, rfl, rfl, rfl⟩
          have k1 : I s 1 = 0 → R s 0 ≠ none → osP T I R s w := fun h1 h2 => by unfold osP; rw [if_neg t1_0, if_pos t1_1]; exact ⟨h2, h1⟩
          first
          | (rw [bI_f (P := osP T I R s w) (fun h9 => by unfold osP at h9; rw [if_neg t1_0, if_pos t1_1] at h9; omega)]; done)
          | (rw [bI_t (k1 (by omega) (by rw [b56]; exact fun h => by cases h))]; done)
          | (rw [bI_f (P := osP T I R s w) (fun h9 => by unfold osP at h9; rw [if_neg t1_0, if_pos t1_1] at h9; exact h9.1 b56)]; done)
    · skip
      by_cases t1_2 : w = 2
      · refine x_tswIn (pc := 1) hC 72 dX9_isOfSort_1 (by omega) (by omega) (by omega) (by rw [t1_2]; rfl) (by decide) ?_
        refine x_aload_n (pc := 72) hC dX9_isOfSort_72 rfl ?_
        refine x_getO (pc := 73) hC gf_X9_15 dX9_isOfSort_73 hs rfl ?_
        refine x_ifnull (pc := 76) hC 83 dX9_isOfSort_76 (by decide) (fun b76 => ?_) (fun q76 b76 => ?_)
        · refine x_iconst (pc := 83) hC dX9_isOfSort_83 ?_
          refine x_zret (pc := 84) hC rfl dX9_isOfSort_84 (Or.inl rfl) ?_
          refine ⟨?_, rfl, rfl, rfl, rfl, rfl⟩
          first
          | (rw [bI_f (P := osP T I R s w) (fun h9 => by unfold osP at h9; rw [if_neg t1_0, if_neg t1_1, b76] at h9; change w - 2 ≤ -1 at h9; omega)]; done)
          | (rw [bI_t (P := osP T I R s w) (by unfold osP; rw [if_neg t1_0, if_neg t1_1, b76]; show w - 2 ≤ kdT (T q76); unfold kdT; split <;> (try split) <;> omega)]; done)
        · refine x_iconst (pc := 79) hC dX9_isOfSort_79 ?_
          refine x_goto (pc := 80) hC 84 dX9_isOfSort_80 (by decide) ?_
          refine x_zret (pc := 84) hC rfl dX9_isOfSort_84 (Or.inr rfl) ?_
          refine ⟨?_, rfl, rfl, rfl, rfl, rfl⟩
          first
          | (rw [bI_f (P := osP T I R s w) (fun h9 => by unfold osP at h9; rw [if_neg t1_0, if_neg t1_1, b76] at h9; change w - 2 ≤ -1 at h9; omega)]; done)
          | (rw [bI_t (P := osP T I R s w) (by unfold osP; rw [if_neg t1_0, if_neg t1_1, b76]; show w - 2 ≤ kdT (T q76); unfold kdT; split <;> (try split) <;> omega)]; done)
      · skip
        by_cases t1_3 : w = 3
        · refine x_tswIn (pc := 1) hC 85 dX9_isOfSort_1 (by omega) (by omega) (by omega) (by rw [t1_3]; rfl) (by decide) ?_
          refine x_aload_n (pc := 85) hC dX9_isOfSort_85 rfl ?_
          refine x_getO (pc := 86) hC gf_X9_15 dX9_isOfSort_86 hs rfl ?_
          rcases hcm : R s 2 with _ | q
          · refine x_instN (pc := 89) hC dX9_isOfSort_89 ?_
            refine x_zret (pc := 92) hC rfl dX9_isOfSort_92 (Or.inl rfl) ?_
            refine ⟨?_, rfl, rfl, rfl, rfl, rfl⟩
            rw [bI_f (P := osP T I R s w) (fun h9 => by unfold osP at h9; rw [if_neg (by omega), if_neg (by omega), hcm] at h9; change w - 2 ≤ -1 at h9; omega)]
          · rcases hc q hcm with h | h | h
            · refine x_inst1 (pc := 89) hC ck_X0 kl_X9_23 (Or.inr n_FK) dX9_isOfSort_89 h ?_
              refine x_zret (pc := 92) hC rfl dX9_isOfSort_92 (Or.inr rfl) ?_
              refine ⟨?_, rfl, rfl, rfl, rfl, rfl⟩
              have e9 : kdO T (R s 2) = 2 := by rw [hcm]; show kdT (T q) = _; rw [h]; rfl
              rw [bI_t (P := osP T I R s w) (by unfold osP; rw [if_neg (by omega), if_neg (by omega), e9]; omega)]
            · refine x_inst1 (pc := 89) hC ck_X1 kl_X9_23 (Or.inl rfl) dX9_isOfSort_89 h ?_
              refine x_zret (pc := 92) hC rfl dX9_isOfSort_92 (Or.inr rfl) ?_
              refine ⟨?_, rfl, rfl, rfl, rfl, rfl⟩
              have e9 : kdO T (R s 2) = 1 := by rw [hcm]; show kdT (T q) = _; rw [h]; rfl
              rw [bI_t (P := osP T I R s w) (by unfold osP; rw [if_neg (by omega), if_neg (by omega), e9]; omega)]
            · refine x_inst0 (pc := 89) hC ck_X5 kl_X9_23 hC.2.2.2.2.2.2.2.1.2.2.2.1 dX9_isOfSort_89 h ?_
              refine x_zret (pc := 92) hC rfl dX9_isOfSort_92 (Or.inl rfl) ?_
              refine ⟨?_, rfl, rfl, rfl, rfl, rfl⟩
              have e9 : kdO T (R s 2) = 0 := by rw [hcm]; show kdT (T q) = _; rw [h]; rfl
              rw [bI_f (P := osP T I R s w) (fun h9 => by unfold osP at h9; rw [if_neg (by omega), if_neg (by omega), e9] at h9; omega)]
        · skip
          refine x_tswOut (pc := 1) hC 93 dX9_isOfSort_1 (by decide) (by omega) (by omega) ?_
          refine x_aload_n (pc := 93) hC dX9_isOfSort_93 rfl ?_
          refine x_getO (pc := 94) hC gf_X9_15 dX9_isOfSort_94 hs rfl ?_
          rcases hcm : R s 2 with _ | q
          · refine x_instN (pc := 97) hC dX9_isOfSort_97 ?_
            refine x_zret (pc := 100) hC rfl dX9_isOfSort_100 (Or.inl rfl) ?_
            refine ⟨?_, rfl, rfl, rfl, rfl, rfl⟩
            rw [bI_f (P := osP T I R s w) (fun h9 => by unfold osP at h9; rw [if_neg (by omega), if_neg (by omega), hcm] at h9; change w - 2 ≤ -1 at h9; omega)]
          · rcases hc q hcm with h | h | h
            · refine x_inst1 (pc := 97) hC ck_X0 kl_X9_25 (Or.inl rfl) dX9_isOfSort_97 h ?_
              refine x_zret (pc := 100) hC rfl dX9_isOfSort_100 (Or.inr rfl) ?_
              refine ⟨?_, rfl, rfl, rfl, rfl, rfl⟩
              have e9 : kdO T (R s 2) = 2 := by rw [hcm]; show kdT (T q) = _; rw [h]; rfl
              rw [bI_t (P := osP T I R s w) (by unfold osP; rw [if_neg (by omega), if_neg (by omega), e9]; omega)]
            · refine x_inst0 (pc := 97) hC ck_X1 kl_X9_25 hC.2.2.2.2.2.2.2.1.2.2.2.2.2 dX9_isOfSort_97 h ?_
              refine x_zret (pc := 100) hC rfl dX9_isOfSort_100 (Or.inl rfl) ?_
              refine ⟨?_, rfl, rfl, rfl, rfl, rfl⟩
              have e9 : kdO T (R s 2) = 1 := by rw [hcm]; show kdT (T q) = _; rw [h]; rfl
              rw [bI_f (P := osP T I R s w) (fun h9 => by unfold osP at h9; rw [if_neg (by omega), if_neg (by omega), e9] at h9; omega)]
            · refine x_inst0 (pc := 97) hC ck_X5 kl_X9_25 hC.2.2.2.2.2.2.2.1.2.2.2.2.1 dX9_isOfSort_97 h ?_
              refine x_zret (pc := 100) hC rfl dX9_isOfSort_100 (Or.inl rfl) ?_
              refine ⟨?_, rfl, rfl, rfl, rfl, rfl⟩
              have e9 : kdO T (R s 2) = 0 := by rw [hcm]; show kdT (T q) = _; rw [h]; rfl
              rw [bI_f (P := osP T I R s w) (fun h9 => by unfold osP at h9; rw [if_neg (by omega), if_neg (by omega), e9] at h9; omega)]

