/-! THE CLASS: a replay begins, remembers, brings back -/
set_option maxHeartbeats 4000000 in
set_option maxRecDepth 100000 in
theorem c_begin {G : ax_G} {T : Nat → Nat} {N : Nat → Int} {I : Nat → Int → Int} {R : Nat → Int → Option Nat} {z : Nat} {A w9 : Int → Nat} {m : Int} {p : Int → Int} (h : cmS T N I R A w9 m p) {r w : Nat} {b c d : Int} (hr : rpT T N R r w) (hrw : r < w ∧ ∀ c, 0 ≤ c → c < m → w9 c ≠ w + 2 ∧ w9 c ≠ r) (hc : 0 ≤ c ∧ c < m) (hd : 0 ≤ d ∧ d < m) (h24 : (path p c).length ≤ 24) (h25 : (path p d).length ≤ 24) : axR G YX6_begin 3 [vR r, vI b, vR (A c), vR (A d)] T N I R z (fun r1 I1 R1 => r1 = none ∧ ((I1 r 1 = b ∧ I1 r 5 = (((path p c).filter (fun y => decide (y ∉ path p d))).length : Int) - 1 ∧ I1 r 7 = (((path p d).filter (fun y => decide (y ∉ path p c))).length : Int)) ∧ (∀ j, j ≠ 1 → j ≠ 5 → j ≠ 7 → I1 r j = I r j) ∧ (∀ q, q ≠ r → q ≠ w + 2 → I1 q = I q) ∧ ∀ j, 0 ≤ j → j < 4 → I1 (w + 2) j = 0) ∧ (R1 r 2 = some (A d) ∧ R1 r 3 = some (A d) ∧ (∀ j, j ≠ 2 → j ≠ 3 → R1 r j = R r j) ∧ ∀ q, q ≠ r → q ≠ w → q ≠ w + 1 → R1 q = R q) ∧ (∀ (k : Nat) (v : Int), ((path p c).filter (fun y => decide (y ∉ path p d)))[k]? = some v → R1 w k = some (A v)) ∧ ∀ (k : Nat) (v : Int), ((path p d).filter (fun y => decide (y ∉ path p c)))[k]? = some v → R1 (w + 1) k = some (A v)) := by

  refine ax_enter (by decide) (Nat.le_of_ble_eq_true rfl) (ax_cat rfl) (fun f hC => ?_)
  show axX G f 0 0 _ 0 [vR r, vI b, vR (A c), vR (A d)] [] T N I R z 0 0
  have k1 := (h.2 c hc.1 hc.2).1
  have k2 := (h.2 d hd.1 hd.2).1
  have hT : ∀ q, pT (T q) → q ≠ r ∧ q ≠ w ∧ q ≠ w + 1 ∧ q ≠ w + 2 := fun q hq => by
    have t1 := hr.1
    have t2 := hr.2.1.2.1
    have t3 := hr.2.2.1.2.1
    have t4 := hr.2.2.2.1.2.1
    refine ⟨fun e => ?_, fun e => ?_, fun e => ?_, fun e => ?_⟩ <;> rw [e] at hq <;> rcases hq with h | h | h <;> omega
  have hrB : rpT T N (ax_u (ax_u R r 2 (some (A d))) r 3 (some (A d))) r w := rpT_fr hr (fun k a1 a2 => by rw [axu_j a2, axu_j a1])
  have hB : cmS T N (ax_u I r 1 b) (ax_u (ax_u R r 2 (some (A d))) r 3 (some (A d))) A w9 m p := cmS_fi (cmS_fr h (fun q hq => by rw [axu_row (hT q hq).1, axu_row (hT q hq).1])) (fun q hq => axu_row (hT q hq).1) (fun c a1 a2 => axu_row (hrw.2 c a1 a2).2)
  refine x_aload_n (pc := 0) hC dX6_begin_0 rfl ?_
  refine x_iload_n (pc := 1) hC dX6_begin_1 rfl ?_
  refine x_putI (pc := 2) hC pf_X6_47 dX6_begin_2 hr.1 (by decide) ?_
  refine x_aload_n (pc := 5) hC dX6_begin_5 rfl ?_
  refine x_aload_n (pc := 6) hC dX6_begin_6 rfl ?_
  refine x_putO (pc := 7) hC pf_X6_41 dX6_begin_7 (Or.inl ⟨_, rfl⟩) hr.1 (by decide) ?_
  refine x_aload_n (pc := 10) hC dX6_begin_10 rfl ?_
  refine x_aload_n (pc := 11) hC dX6_begin_11 rfl ?_
  refine x_putO (pc := 12) hC pf_X6_44 dX6_begin_12 (Or.inl ⟨_, rfl⟩) hr.1 (by decide) ?_
  refine x_aload_n (pc := 15) hC dX6_begin_15 rfl ?_
  refine x_aload_n (pc := 16) hC dX6_begin_16 rfl ?_
  refine x_aload_n (pc := 17) hC dX6_begin_17 rfl ?_
  refine x_aload_n (pc := 18) hC dX6_begin_18 rfl ?_
  refine x_getO (pc := 19) hC gf_X6_11 dX6_begin_19 hr.1 hrB.2.1.1 ?_
  refine x_rS (pc := 22) hC cs_X6_50 dX6_begin_22 (c_listNot hB hc hd hr.2.1.2.1 hr.2.1.2.2 h24) rfl (by decide) rfl rfl (Nat.le_of_ble_eq_true rfl) ?_
  rintro v J1 S1 ⟨rfl, rfl, f1, g1⟩
  dsimp only [Option.toList, List.cons_append, List.nil_append]
  have s1r : S1 r = (ax_u (ax_u R r 2 (some (A d))) r 3 (some (A d))) r := f1 r (by omega)
  have hrC : rpT T N S1 r w := rpT_fr hrB (fun k _ _ => by rw [s1r])
  refine x_iconst (pc := 25) hC dX6_begin_25 ?_
  refine x_isub (pc := 26) hC dX6_begin_26 ?_
  refine x_putI (pc := 27) hC pf_X6_17 dX6_begin_27 hr.1 (by decide) ?_
  have hB2 : cmS T N (ax_u (ax_u I r 1 b) r 5 ((((path p c).filter (fun y => decide (y ∉ path p d))).length : Int) - 1)) S1 A w9 m p := cmS_fi (cmS_fr hB (fun q hq => f1 q (hT q hq).2.1)) (fun q hq => axu_row (hT q hq).1) (fun c a1 a2 => axu_row (hrw.2 c a1 a2).2)
  refine x_aload_n (pc := 30) hC dX6_begin_30 rfl ?_
  refine x_aload_n (pc := 31) hC dX6_begin_31 rfl ?_
  refine x_aload_n (pc := 32) hC dX6_begin_32 rfl ?_
  refine x_aload_n (pc := 33) hC dX6_begin_33 rfl ?_
  refine x_getO (pc := 34) hC gf_X6_21 dX6_begin_34 hr.1 hrC.2.2.1.1 ?_
  refine x_rS (pc := 37) hC cs_X6_50 dX6_begin_37 (c_listNot hB2 hd hc hr.2.2.1.2.1 hr.2.2.1.2.2 h25) rfl (by decide) rfl rfl (Nat.le_of_ble_eq_true rfl) ?_
  rintro v J2 S2 ⟨rfl, hJ2, f2, g2⟩
  dsimp only [Option.toList, List.cons_append, List.nil_append]
  have s2r : S2 r = (ax_u (ax_u R r 2 (some (A d))) r 3 (some (A d))) r := (f2 r (by omega)).trans s1r
  have hrD : rpT T N S2 r w := rpT_fr hrB (fun k _ _ => by rw [s2r])
  rw [hJ2]
  refine x_putI (pc := 40) hC pf_X6_54 dX6_begin_40 hr.1 (by decide) ?_
  refine x_aload_n (pc := 43) hC dX6_begin_43 rfl ?_
  refine x_getO (pc := 44) hC gf_X6_24 dX6_begin_44 hr.1 hrD.2.2.2.1.1 ?_
  refine x_iconst (pc := 47) hC dX6_begin_47 ?_
  refine x_mSx (pc := 48) hC cs_X6_57 dX6_begin_48 (c_fill (r := w + 2) hr.2.2.2.1.2.1 (by rw [hr.2.2.2.1.2.2]; omega)) rfl (by decide) rfl rfl (Nat.le_of_ble_eq_true rfl) ?_
  rintro v J3 ⟨rfl, f3, g3⟩
  dsimp only [Option.toList, List.nil_append]
  rw [hr.2.2.2.1.2.2] at g3
  refine x_vret (pc := 51) hC rfl dX6_begin_51 ?_
  refine ⟨⟨rfl, ⟨⟨?_, ?_, ?_⟩, fun j a1 a2 a3 => ?_, fun q a1 a2 => ?_, g3⟩, ⟨?_, ?_, fun j a1 a2 => ?_, fun q a1 a2 a3 => ?_⟩, fun k v hk => ?_, g2⟩, rfl, rfl, rfl⟩
  · rw [f3 r (by omega), axu_j (by decide), axu_j (by decide), axu_s]
  · rw [f3 r (by omega), axu_j (by decide), axu_s]
  · rw [f3 r (by omega), axu_s]
  · rw [f3 r (by omega), axu_j a3, axu_j a2, axu_j a1]
  · rw [f3 q a2, axu_row a1, axu_row a1, axu_row a1]
  · rw [s2r, axu_j (by decide), axu_s]
  · rw [s2r, axu_s]
  · rw [s2r, axu_j a2, axu_j a1]
  · rw [f2 q a3, f1 q a2, axu_row a1, axu_row a1]
  · rw [f2 w (by omega)]; exact g1 k v hk

set_option maxHeartbeats 4000000 in
set_option maxRecDepth 100000 in
theorem c_remember {G : ax_G} {T : Nat → Nat} {N : Nat → Int} {I : Nat → Int → Int} {R : Nat → Int → Option Nat} {z : Nat} {r w g : Nat} {n : Int} (hr : rpT T N R r w) (hg : mgT T N R g) (h7 : r7 T R (g + 1)) (hrw : r < w ∧ (g + 93 ≤ r ∨ w + 5 ≤ g)) (hB : G.2.2.2.1 ≤ w) : axR G YX6_remember 1 [vR r, vI n, vR g] T N I R z (fun r1 I1 R1 => r1 = none ∧ ((I1 r 10 = n ∧ I1 r 13 = I g 1) ∧ (∀ j, j ≠ 10 → j ≠ 13 → I1 r j = I r j) ∧ (∀ q, q ≠ r → q ≠ w + 3 → I1 q = I q) ∧ ∀ j, 0 ≤ j → j < 4 → I1 (w + 3) j = I (w + 2) j) ∧ (∀ q, q ≠ w + 4 → R1 q = R q) ∧ ∀ j, 0 ≤ j → j < 8 → R1 (w + 4) j = R (g + 1) j) := by

  refine ax_enter (by decide) (Nat.le_of_ble_eq_true rfl) (ax_cat rfl) (fun f hC => ?_)
  show axX G f 0 0 _ 0 [vR r, vI n, vR g, vU] [] T N I R z 0 0
  have hrg : r ≠ g := fun e => by have h1 := hr.1; have h2 := hg.1; rw [e] at h1; omega
  have e0 : (ax_u (ax_u I r 10 n) r 13 (ax_u I r 10 n g 1)) = (ax_u (ax_u I r 10 n) r 13 (I g 1)) := by rw [axu_a (Ne.symm hrg)]
  have loop : ∀ (c : Nat) (x : Int) (S : Nat → Int → Option Nat), (8 - x).toNat ≤ c → 0 ≤ x → x ≤ 8 → (∀ q, q ≠ w + 4 → S q = R q) → (∀ j, 0 ≤ j → j < x → S (w + 4) j = R (g + 1) j) → axX G f 0 0 (fun r1 T1 N1 I1 R1 z1 => (r1 = none ∧ ((I1 r 10 = n ∧ I1 r 13 = I g 1) ∧ (∀ j, j ≠ 10 → j ≠ 13 → I1 r j = I r j) ∧ (∀ q, q ≠ r → q ≠ w + 3 → I1 q = I q) ∧ ∀ j, 0 ≤ j → j < 4 → I1 (w + 3) j = I (w + 2) j) ∧ (∀ q, q ≠ w + 4 → R1 q = R q) ∧ ∀ j, 0 ≤ j → j < 8 → R1 (w + 4) j = R (g + 1) j) ∧ T1 = T ∧ N1 = N ∧ z1 = z) 15 [vR r, vI n, vR g, vI x] [] T N (ax_u (ax_u I r 10 n) r 13 (I g 1)) S z 0 0 := by
    intro c
    have fin : ∀ (x : Int) (S : Nat → Int → Option Nat), x = 8 → (∀ q, q ≠ w + 4 → S q = R q) → (∀ j, 0 ≤ j → j < x → S (w + 4) j = R (g + 1) j) → axX G f 0 0 (fun r1 T1 N1 I1 R1 z1 => (r1 = none ∧ ((I1 r 10 = n ∧ I1 r 13 = I g 1) ∧ (∀ j, j ≠ 10 → j ≠ 13 → I1 r j = I r j) ∧ (∀ q, q ≠ r → q ≠ w + 3 → I1 q = I q) ∧ ∀ j, 0 ≤ j → j < 4 → I1 (w + 3) j = I (w + 2) j) ∧ (∀ q, q ≠ w + 4 → R1 q = R q) ∧ ∀ j, 0 ≤ j → j < 8 → R1 (w + 4) j = R (g + 1) j) ∧ T1 = T ∧ N1 = N ∧ z1 = z) 39 [vR r, vI n, vR g, vI x] [] T N (ax_u (ax_u I r 10 n) r 13 (I g 1)) S z 0 0 := by
      intro x S hx s1 s2
      have hrS : rpT T N S r w := rpT_fr hr (fun k _ _ => by rw [s1 r (by omega)])
      refine x_aload_n (pc := 39) hC dX6_remember_39 rfl ?_
      refine x_getO (pc := 40) hC gf_X6_24 dX6_remember_40 hr.1 hrS.2.2.2.1.1 ?_
      refine x_iconst (pc := 43) hC dX6_remember_43 ?_
      refine x_aload_n (pc := 44) hC dX6_remember_44 rfl ?_
      refine x_getO (pc := 45) hC gf_X6_28 dX6_remember_45 hr.1 hrS.2.2.2.2.1.1 ?_
      refine x_iconst (pc := 48) hC dX6_remember_48 ?_
      refine x_iconst (pc := 49) hC dX6_remember_49 ?_
      refine x_acopy (pc := 50) hC ac_X6_84 w_acnat w_acst w_sysini dX6_remember_50 hr.2.2.2.1.2.1 hr.2.2.2.2.1.2.1 (by omega) (by omega) (by omega) (by omega) (by omega) (by rw [hr.2.2.2.1.2.2]; omega) (by rw [hr.2.2.2.2.1.2.2]; omega) (by decide) rfl (Nat.le_of_ble_eq_true rfl) ?_
      refine x_vret (pc := 53) hC rfl dX6_remember_53 ?_
      refine ⟨⟨rfl, ⟨⟨?_, ?_⟩, fun j a1 a2 => ?_, fun q a1 a2 => ?_, fun j a1 a2 => ?_⟩, s1, fun j a1 a2 => s2 j a1 (by omega)⟩, rfl, rfl, rfl⟩
      · show (if r = w + 3 ∧ _ then _ else _) = n
        rw [if_neg (by omega), axu_j (by decide), axu_s]
      · show (if r = w + 3 ∧ _ then _ else _) = _
        rw [if_neg (by omega), axu_s]
      · show (if r = w + 3 ∧ _ then _ else _) = _
        rw [if_neg (by omega), axu_j a2, axu_j a1]
      · funext j
        show (if q = w + 3 ∧ _ then _ else _) = _
        rw [if_neg (by omega), axu_row a1, axu_row a1]
      · show (if w + 3 = w + 3 ∧ _ then _ else _) = _
        rw [if_pos (by omega), axu_a (by omega), axu_a (by omega)]
        congr 1
        omega
    induction c with
    | zero =>
      intro x S hc h0 h1 s1 s2
      refine x_iload_n (pc := 15) hC dX6_remember_15 rfl ?_
      refine x_bipush (pc := 16) hC dX6_remember_16 (by decide) ?_
      refine x_icmp_ge (pc := 18) hC 39 dX6_remember_18 (by decide) (by omega) (by omega) (fun b18 => ?_) (fun b18 => ?_)
      · exact fin x S (by omega) s1 s2
      · exfalso; omega
    | succ c ih =>
      intro x S hc h0 h1 s1 s2
      have hrS : rpT T N S r w := rpT_fr hr (fun k _ _ => by rw [s1 r (by omega)])
      have sg : S g = R g := s1 g (by omega)
      have sg1 : S (g + 1) = R (g + 1) := s1 (g + 1) (by omega)
      refine x_iload_n (pc := 15) hC dX6_remember_15 rfl ?_
      refine x_bipush (pc := 16) hC dX6_remember_16 (by decide) ?_
      refine x_icmp_ge (pc := 18) hC 39 dX6_remember_18 (by decide) (by omega) (by omega) (fun b18 => ?_) (fun b18 => ?_)
      · exact fin x S (by omega) s1 s2
      · refine x_aload_n (pc := 21) hC dX6_remember_21 rfl ?_
        refine x_getO (pc := 22) hC gf_X6_33 dX6_remember_22 hr.1 hrS.2.2.2.2.2.1 ?_
        refine x_iload_n (pc := 25) hC dX6_remember_25 rfl ?_
        refine x_aload_n (pc := 26) hC dX6_remember_26 rfl ?_
        refine x_getO (pc := 27) hC gf_X6_81 dX6_remember_27 hg.1 (Eq.trans (congrFun sg _) hg.2.1.1) ?_
        refine x_iload_n (pc := 30) hC dX6_remember_30 rfl ?_
        refine x_aald (pc := 31) hC axEl_16 dX6_remember_31 hg.2.1.2.1 (by omega) (by rw [hg.2.1.2.2]; omega) (congrFun sg1 _) ?_
        refine x_aast (pc := 32) hC axEl_16 dX6_remember_32 hr.2.2.2.2.2.2.1 (by omega) (by rw [hr.2.2.2.2.2.2.2]; omega) (fun v hv => by rw [h7 x v h0 (by omega) hv]; exact axTakes_7) ?_
        refine x_iinc (pc := 33) hC dX6_remember_33 rfl ?_
        dsimp only [List.set]
        refine x_goto (pc := 36) hC 15 dX6_remember_36 (by decide) ?_
        refine ih (x + 1) _ (by omega) (by omega) (by omega) (fun q hq => by rw [axu_row hq]; exact s1 q hq) (fun j a1 a2 => ?_)
        by_cases hj : j = x
        · rw [hj, axu_s]
        · rw [axu_j hj]; exact s2 j a1 (by omega)
  refine x_aload_n (pc := 0) hC dX6_remember_0 rfl ?_
  refine x_iload_n (pc := 1) hC dX6_remember_1 rfl ?_
  refine x_putI (pc := 2) hC pf_X6_70 dX6_remember_2 hr.1 (by decide) ?_
  refine x_aload_n (pc := 5) hC dX6_remember_5 rfl ?_
  refine x_aload_n (pc := 6) hC dX6_remember_6 rfl ?_
  refine x_getI (pc := 7) hC gf_X6_73 dX6_remember_7 hg.1 ?_
  refine x_putI (pc := 10) hC pf_X6_78 dX6_remember_10 hr.1 (by decide) ?_
  refine x_iconst (pc := 13) hC dX6_remember_13 ?_
  refine x_istore_n (pc := 14) hC dX6_remember_14 (Nat.le_of_ble_eq_true rfl) ?_
  dsimp only [List.set]
  rw [e0]
  exact loop _ 0 R (Nat.le_refl _) (by omega) (by omega) (fun _ _ => rfl) (fun j a1 a2 => by omega)

set_option maxHeartbeats 4000000 in
set_option maxRecDepth 100000 in
theorem c_restore {G : ax_G} {T : Nat → Nat} {N : Nat → Int} {I : Nat → Int → Int} {R : Nat → Int → Option Nat} {z : Nat} {r w g : Nat} (hr : rpT T N R r w) (hg : mgT T N R g) (h7 : r7 T R (w + 4)) (hrw : r < w ∧ (g + 93 ≤ r ∨ w + 5 ≤ g)) (hB : G.2.2.2.1 ≤ w) : axR G YX6_restore 1 [vR r, vR g] T N I R z (fun r1 I1 R1 => r1 = none ∧ (I1 g 1 = I r 13 ∧ (∀ j, j ≠ 1 → I1 g j = I g j) ∧ (∀ q, q ≠ g → q ≠ w + 2 → I1 q = I q) ∧ ∀ j, 0 ≤ j → j < 4 → I1 (w + 2) j = I (w + 3) j) ∧ (∀ q, q ≠ g + 1 → R1 q = R q) ∧ ∀ j, 0 ≤ j → j < 8 → R1 (g + 1) j = R (w + 4) j) := by

  refine ax_enter (by decide) (Nat.le_of_ble_eq_true rfl) (ax_cat rfl) (fun f hC => ?_)
  show axX G f 0 0 _ 0 [vR r, vR g, vU] [] T N I R z 0 0
  have loop : ∀ (c : Nat) (x : Int) (S : Nat → Int → Option Nat), (8 - x).toNat ≤ c → 0 ≤ x → x ≤ 8 → (∀ q, q ≠ g + 1 → S q = R q) → (∀ j, 0 ≤ j → j < x → S (g + 1) j = R (w + 4) j) → axX G f 0 0 (fun r1 T1 N1 I1 R1 z1 => (r1 = none ∧ (I1 g 1 = I r 13 ∧ (∀ j, j ≠ 1 → I1 g j = I g j) ∧ (∀ q, q ≠ g → q ≠ w + 2 → I1 q = I q) ∧ ∀ j, 0 ≤ j → j < 4 → I1 (w + 2) j = I (w + 3) j) ∧ (∀ q, q ≠ g + 1 → R1 q = R q) ∧ ∀ j, 0 ≤ j → j < 8 → R1 (g + 1) j = R (w + 4) j) ∧ T1 = T ∧ N1 = N ∧ z1 = z) 10 [vR r, vR g, vI x] [] T N (ax_u I g 1 (I r 13)) S z 0 0 := by
    intro c
    have fin : ∀ (x : Int) (S : Nat → Int → Option Nat), x = 8 → (∀ q, q ≠ g + 1 → S q = R q) → (∀ j, 0 ≤ j → j < x → S (g + 1) j = R (w + 4) j) → axX G f 0 0 (fun r1 T1 N1 I1 R1 z1 => (r1 = none ∧ (I1 g 1 = I r 13 ∧ (∀ j, j ≠ 1 → I1 g j = I g j) ∧ (∀ q, q ≠ g → q ≠ w + 2 → I1 q = I q) ∧ ∀ j, 0 ≤ j → j < 4 → I1 (w + 2) j = I (w + 3) j) ∧ (∀ q, q ≠ g + 1 → R1 q = R q) ∧ ∀ j, 0 ≤ j → j < 8 → R1 (g + 1) j = R (w + 4) j) ∧ T1 = T ∧ N1 = N ∧ z1 = z) 34 [vR r, vR g, vI x] [] T N (ax_u I g 1 (I r 13)) S z 0 0 := by
      intro x S hx s1 s2
      have hrS : rpT T N S r w := rpT_fr hr (fun k _ _ => by rw [s1 r (by omega)])
      refine x_aload_n (pc := 34) hC dX6_restore_34 rfl ?_
      refine x_getO (pc := 35) hC gf_X6_28 dX6_restore_35 hr.1 hrS.2.2.2.2.1.1 ?_
      refine x_iconst (pc := 38) hC dX6_restore_38 ?_
      refine x_aload_n (pc := 39) hC dX6_restore_39 rfl ?_
      refine x_getO (pc := 40) hC gf_X6_24 dX6_restore_40 hr.1 hrS.2.2.2.1.1 ?_
      refine x_iconst (pc := 43) hC dX6_restore_43 ?_
      refine x_iconst (pc := 44) hC dX6_restore_44 ?_
      refine x_acopy (pc := 45) hC ac_X6_84 w_acnat w_acst w_sysini dX6_restore_45 hr.2.2.2.2.1.2.1 hr.2.2.2.1.2.1 (by omega) (by omega) (by omega) (by omega) (by omega) (by rw [hr.2.2.2.2.1.2.2]; omega) (by rw [hr.2.2.2.1.2.2]; omega) (by decide) rfl (Nat.le_of_ble_eq_true rfl) ?_
      refine x_vret (pc := 48) hC rfl dX6_restore_48 ?_
      refine ⟨⟨rfl, ⟨?_, fun j a1 => ?_, fun q a1 a2 => ?_, fun j a1 a2 => ?_⟩, s1, fun j a1 a2 => s2 j a1 (by omega)⟩, rfl, rfl, rfl⟩
      · show (if g = w + 2 ∧ _ then _ else _) = _
        rw [if_neg (by omega), axu_s]
      · show (if g = w + 2 ∧ _ then _ else _) = _
        rw [if_neg (by omega), axu_j a1]
      · funext j
        show (if q = w + 2 ∧ _ then _ else _) = _
        rw [if_neg (by omega), axu_row a1]
      · show (if w + 2 = w + 2 ∧ _ then _ else _) = _
        rw [if_pos (by omega), axu_a (by omega)]
        congr 1
        omega
    induction c with
    | zero =>
      intro x S hc h0 h1 s1 s2
      refine x_iload_n (pc := 10) hC dX6_restore_10 rfl ?_
      refine x_bipush (pc := 11) hC dX6_restore_11 (by decide) ?_
      refine x_icmp_ge (pc := 13) hC 34 dX6_restore_13 (by decide) (by omega) (by omega) (fun b13 => ?_) (fun b13 => ?_)
      · exact fin x S (by omega) s1 s2
      · exfalso; omega
    | succ c ih =>
      intro x S hc h0 h1 s1 s2
      have hrS : rpT T N S r w := rpT_fr hr (fun k _ _ => by rw [s1 r (by omega)])
      have sg : S g = R g := s1 g (by omega)
      have sg1 : S (w + 4) = R (w + 4) := s1 (w + 4) (by omega)
      refine x_iload_n (pc := 10) hC dX6_restore_10 rfl ?_
      refine x_bipush (pc := 11) hC dX6_restore_11 (by decide) ?_
      refine x_icmp_ge (pc := 13) hC 34 dX6_restore_13 (by decide) (by omega) (by omega) (fun b13 => ?_) (fun b13 => ?_)
      · exact fin x S (by omega) s1 s2
      · refine x_aload_n (pc := 16) hC dX6_restore_16 rfl ?_
        refine x_getO (pc := 17) hC gf_X6_81 dX6_restore_17 hg.1 (Eq.trans (congrFun sg _) hg.2.1.1) ?_
        refine x_iload_n (pc := 20) hC dX6_restore_20 rfl ?_
        refine x_aload_n (pc := 21) hC dX6_restore_21 rfl ?_
        refine x_getO (pc := 22) hC gf_X6_33 dX6_restore_22 hr.1 hrS.2.2.2.2.2.1 ?_
        refine x_iload_n (pc := 25) hC dX6_restore_25 rfl ?_
        refine x_aald (pc := 26) hC axEl_16 dX6_restore_26 hr.2.2.2.2.2.2.1 (by omega) (by rw [hr.2.2.2.2.2.2.2]; omega) (congrFun sg1 _) ?_
        refine x_aast (pc := 27) hC axEl_16 dX6_restore_27 hg.2.1.2.1 (by omega) (by rw [hg.2.1.2.2]; omega) (fun v hv => by rw [h7 x v h0 (by omega) hv]; exact axTakes_7) ?_
        refine x_iinc (pc := 28) hC dX6_restore_28 rfl ?_
        dsimp only [List.set]
        refine x_goto (pc := 31) hC 10 dX6_restore_31 (by decide) ?_
        refine ih (x + 1) _ (by omega) (by omega) (by omega) (fun q hq => by rw [axu_row hq]; exact s1 q hq) (fun j a1 a2 => ?_)
        by_cases hj : j = x
        · rw [hj, axu_s]
        · rw [axu_j hj]; exact s2 j a1 (by omega)
  refine x_aload_n (pc := 0) hC dX6_restore_0 rfl ?_
  refine x_aload_n (pc := 1) hC dX6_restore_1 rfl ?_
  refine x_getI (pc := 2) hC gf_X6_78 dX6_restore_2 hr.1 ?_
  refine x_putI (pc := 5) hC pf_X6_73 dX6_restore_5 hg.1 (by decide) ?_
  refine x_iconst (pc := 8) hC dX6_restore_8 ?_
  refine x_istore_n (pc := 9) hC dX6_restore_9 (Nat.le_of_ble_eq_true rfl) ?_
  dsimp only [List.set]
  exact loop _ 0 R (Nat.le_refl _) (by omega) (by omega) (fun _ _ => rfl) (fun j a1 a2 => by omega)

