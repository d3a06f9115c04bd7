/-! THE CLASS: commits -/
/-- the commits: their objects, their rows -/
def cmS (T : Nat → Nat) (N : Nat → Int) (I : Nat → Int → Int) (R : Nat → Int → Option Nat) (A w : Int → Nat) (m : Int) (p : Int → Int) : Prop := PW p m ∧ ∀ c, 0 ≤ c → c < m → pT (T (A c)) ∧ I (A c) 1 = c ∧ R (A c) 2 = (if c = 0 then none else some (A (p c))) ∧ R (A c) 4 = some (w c) ∧ rwS T N I (w c)
theorem cmS_inj {T : Nat → Nat} {N : Nat → Int} {I : Nat → Int → Int} {R : Nat → Int → Option Nat} {A w : Int → Nat} {m : Int} {p : Int → Int} (h : cmS T N I R A w m p) {c d : Int} (hc : 0 ≤ c ∧ c < m) (hd : 0 ≤ d ∧ d < m) (e : A c = A d) : c = d := by
  rw [← (h.2 c hc.1 hc.2).2.1, ← (h.2 d hd.1 hd.2).2.1, e]
/-- the row of the parent; a first commit's own -/
def pwA (w : Int → Nat) (p : Int → Int) (c : Int) : Nat := if c = 0 then w c else w (p c)

set_option maxHeartbeats 4000000 in
set_option maxRecDepth 100000 in
theorem c_parentRow {G : ax_G} {T : Nat → Nat} {N : Nat → Int} {I : Nat → Int → Int} {R : Nat → Int → Option Nat} {z : Nat} {A w : Int → Nat} {m : Int} {p : Int → Int} (h : cmS T N I R A w m p) {c : Int} (hc : 0 ≤ c ∧ c < m) : axE G YX5_parentRow 0 [vR (A c)] T N I R z (some (vR (pwA w p c))) I := by

  refine ax_enter (by decide) (Nat.le_of_ble_eq_true rfl) (ax_cat rfl) (fun f hC => ?_)
  show axX G f 0 0 _ 0 [vR (A c)] [] T N I R z 0 0
  obtain ⟨h1, h2, h3, h4, h5⟩ := h.2 c hc.1 hc.2
  by_cases h0 : c = 0
  · rw [if_pos h0] at h3
    refine x_aload_n (pc := 0) hC dX5_parentRow_0 rfl ?_
    refine x_getO (pc := 1) hC (gp_X5_19 h1) dX5_parentRow_1 rfl h3 ?_
    refine x_ifnonnull (pc := 4) hC 14 dX5_parentRow_4 (by decide) (fun _ h => by cases h) (fun _ => ?_)
    refine x_aload_n (pc := 7) hC dX5_parentRow_7 rfl ?_
    refine x_getO (pc := 8) hC (gp_X5_26 h1) dX5_parentRow_8 rfl h4 ?_
    refine x_goto (pc := 11) hC 21 dX5_parentRow_11 (by decide) ?_
    refine x_aret (pc := 21) hC rfl (Or.inr ⟨_, rfl⟩) dX5_parentRow_21 ?_
    exact ⟨by unfold pwA; rw [if_pos h0], rfl, rfl, rfl, rfl, rfl⟩
  · rw [if_neg h0] at h3
    have hp := h.1.2 c (by omega) hc.2
    obtain ⟨g1, g2, g3, g4, g5⟩ := h.2 (p c) hp.1 (by omega)
    refine x_aload_n (pc := 0) hC dX5_parentRow_0 rfl ?_
    refine x_getO (pc := 1) hC (gp_X5_19 h1) dX5_parentRow_1 rfl h3 ?_
    refine x_ifnonnull (pc := 4) hC 14 dX5_parentRow_4 (by decide) (fun _ _ => ?_) (fun h => by cases h)
    refine x_aload_n (pc := 14) hC dX5_parentRow_14 rfl ?_
    refine x_getO (pc := 15) hC (gp_X5_19 h1) dX5_parentRow_15 rfl h3 ?_
    refine x_getO (pc := 18) hC (gp_X5_26 g1) dX5_parentRow_18 rfl g4 ?_
    refine x_aret (pc := 21) hC rfl (Or.inr ⟨_, rfl⟩) dX5_parentRow_21 ?_
    exact ⟨by unfold pwA; rw [if_neg h0], rfl, rfl, rfl, rfl, rfl⟩

set_option maxHeartbeats 4000000 in
set_option maxRecDepth 100000 in
theorem c_isOnPathOf {G : ax_G} {T : Nat → Nat} {N : Nat → Int} {I : Nat → Int → Int} {R : Nat → Int → Option Nat} {z : Nat} {A w : Int → Nat} {m : Int} {p : Int → Int} (h : cmS T N I R A w m p) {c x : Int} (hc : 0 ≤ c ∧ c < m) (hx : 0 ≤ x ∧ x < m) : axE G YX5_isOnPathOf 0 [vR (A c), vR (A x)] T N I R z (some (vI (bI (c ∈ path p x)))) I := by

  refine ax_enter (by decide) (Nat.le_of_ble_eq_true rfl) (ax_cat rfl) (fun f hC => ?_)
  show axX G f 0 0 _ 0 [vR (A c), vR (A x), vU] [] T N I R z 0 0
  obtain ⟨k1, -⟩ := h.2 c hc.1 hc.2
  have loop : ∀ (n : Nat) (y : Int), y.toNat ≤ n → 0 ≤ y → y < m → (c ∈ path p y ↔ c ∈ path p x) → axX G f 0 0 (fun r1 T1 N1 I1 R1 z1 => r1 = some (vI (bI (c ∈ path p x))) ∧ T1 = T ∧ N1 = N ∧ I1 = I ∧ R1 = R ∧ z1 = z) 2 [vR (A c), vR (A x), vR (A y)] [] T N I R z 0 0 := by
    intro n
    induction n with
    | zero =>
      intro y hn h0 hy he
      have hy0 : y = 0 := by omega
      obtain ⟨h1, h2, h3, h4, h5⟩ := h.2 y h0 hy
      rw [if_pos hy0] at h3
      refine x_aload_n (pc := 2) hC dX5_isOnPathOf_2 rfl ?_
      refine x_ifnull (pc := 3) hC 21 dX5_isOnPathOf_3 (by decide) (fun h => by cases h) (fun _ _ => ?_)
      refine x_aload_n (pc := 6) hC dX5_isOnPathOf_6 rfl ?_
      refine x_aload_n (pc := 7) hC dX5_isOnPathOf_7 rfl ?_
      refine x_acmp_ne (pc := 8) hC 13 dX5_isOnPathOf_8 (by decide) (fun b8 => ?_) (fun b8 => ?_)
      · refine x_aload_n (pc := 13) hC dX5_isOnPathOf_13 rfl ?_
        refine x_getO (pc := 14) hC (gp_X5_19 h1) dX5_isOnPathOf_14 rfl h3 ?_
        refine x_astore_n (pc := 17) hC dX5_isOnPathOf_17 (Nat.le_of_ble_eq_true rfl) ?_
        dsimp only [List.set]
        refine x_goto (pc := 18) hC 2 dX5_isOnPathOf_18 (by decide) ?_
        refine x_aload_n (pc := 2) hC dX5_isOnPathOf_2 rfl ?_
        refine x_ifnull (pc := 3) hC 21 dX5_isOnPathOf_3 (by decide) (fun _ => ?_) (fun _ h => by cases h)
        refine x_iconst (pc := 21) hC dX5_isOnPathOf_21 ?_
        refine x_zret (pc := 22) hC rfl dX5_isOnPathOf_22 (Or.inl rfl) ?_
        refine ⟨?_, rfl, rfl, rfl, rfl, rfl⟩
        rw [bI_f (fun q => ?_)]
        have q2 := he.mpr q
        rw [hy0, path_0 h.1] at q2
        have : c = 0 := by simpa using q2
        exact b8 (by rw [hy0, this])
      · refine x_iconst (pc := 11) hC dX5_isOnPathOf_11 ?_
        refine x_zret (pc := 12) hC rfl dX5_isOnPathOf_12 (Or.inr rfl) ?_
        refine ⟨?_, rfl, rfl, rfl, rfl, rfl⟩
        have e : c = y := cmS_inj h hc ⟨h0, hy⟩ (Option.some.inj b8).symm
        rw [bI_t (he.mp ?_)]
        rw [e]
        by_cases q : y = 0
        · rw [q, path_0 h.1]; simp
        · rw [path_cons h.1 (by omega) hy]; simp
    | succ n ih =>
      intro y hn h0 hy he
      obtain ⟨h1, h2, h3, h4, h5⟩ := h.2 y h0 hy
      by_cases hy0 : y = 0
      · rw [if_pos hy0] at h3
        refine x_aload_n (pc := 2) hC dX5_isOnPathOf_2 rfl ?_
        refine x_ifnull (pc := 3) hC 21 dX5_isOnPathOf_3 (by decide) (fun h => by cases h) (fun _ _ => ?_)
        refine x_aload_n (pc := 6) hC dX5_isOnPathOf_6 rfl ?_
        refine x_aload_n (pc := 7) hC dX5_isOnPathOf_7 rfl ?_
        refine x_acmp_ne (pc := 8) hC 13 dX5_isOnPathOf_8 (by decide) (fun b8 => ?_) (fun b8 => ?_)
        · refine x_aload_n (pc := 13) hC dX5_isOnPathOf_13 rfl ?_
          refine x_getO (pc := 14) hC (gp_X5_19 h1) dX5_isOnPathOf_14 rfl h3 ?_
          refine x_astore_n (pc := 17) hC dX5_isOnPathOf_17 (Nat.le_of_ble_eq_true rfl) ?_
          dsimp only [List.set]
          refine x_goto (pc := 18) hC 2 dX5_isOnPathOf_18 (by decide) ?_
          refine x_aload_n (pc := 2) hC dX5_isOnPathOf_2 rfl ?_
          refine x_ifnull (pc := 3) hC 21 dX5_isOnPathOf_3 (by decide) (fun _ => ?_) (fun _ h => by cases h)
          refine x_iconst (pc := 21) hC dX5_isOnPathOf_21 ?_
          refine x_zret (pc := 22) hC rfl dX5_isOnPathOf_22 (Or.inl rfl) ?_
          refine ⟨?_, rfl, rfl, rfl, rfl, rfl⟩
          rw [bI_f (fun q => ?_)]
          have q2 := he.mpr q
          rw [hy0, path_0 h.1] at q2
          have : c = 0 := by simpa using q2
          exact b8 (by rw [hy0, this])
        · refine x_iconst (pc := 11) hC dX5_isOnPathOf_11 ?_
          refine x_zret (pc := 12) hC rfl dX5_isOnPathOf_12 (Or.inr rfl) ?_
          refine ⟨?_, rfl, rfl, rfl, rfl, rfl⟩
          have e : c = y := cmS_inj h hc ⟨h0, hy⟩ (Option.some.inj b8).symm
          rw [bI_t (he.mp ?_)]
          rw [e]
          by_cases q : y = 0
          · rw [q, path_0 h.1]; simp
          · rw [path_cons h.1 (by omega) hy]; simp
      · rw [if_neg hy0] at h3
        have hp := h.1.2 y (by omega) hy
        obtain ⟨g1, -⟩ := h.2 (p y) hp.1 (by omega)
        refine x_aload_n (pc := 2) hC dX5_isOnPathOf_2 rfl ?_
        refine x_ifnull (pc := 3) hC 21 dX5_isOnPathOf_3 (by decide) (fun h => by cases h) (fun _ _ => ?_)
        refine x_aload_n (pc := 6) hC dX5_isOnPathOf_6 rfl ?_
        refine x_aload_n (pc := 7) hC dX5_isOnPathOf_7 rfl ?_
        refine x_acmp_ne (pc := 8) hC 13 dX5_isOnPathOf_8 (by decide) (fun b8 => ?_) (fun b8 => ?_)
        · refine x_aload_n (pc := 13) hC dX5_isOnPathOf_13 rfl ?_
          refine x_getO (pc := 14) hC (gp_X5_19 h1) dX5_isOnPathOf_14 rfl h3 ?_
          refine x_astore_n (pc := 17) hC dX5_isOnPathOf_17 (Nat.le_of_ble_eq_true rfl) ?_
          dsimp only [List.set]
          refine x_goto (pc := 18) hC 2 dX5_isOnPathOf_18 (by decide) ?_
          refine ih (p y) (by omega) hp.1 (by omega) (Iff.trans ?_ he)
          rw [path_cons h.1 (by omega) hy, List.mem_cons]
          constructor
          · intro q; exact Or.inr q
          · rintro (q | q)
            · exact absurd (by rw [q]) b8
            · exact q
        · refine x_iconst (pc := 11) hC dX5_isOnPathOf_11 ?_
          refine x_zret (pc := 12) hC rfl dX5_isOnPathOf_12 (Or.inr rfl) ?_
          refine ⟨?_, rfl, rfl, rfl, rfl, rfl⟩
          have e : c = y := cmS_inj h hc ⟨h0, hy⟩ (Option.some.inj b8).symm
          rw [bI_t (he.mp ?_)]
          rw [e]
          by_cases q : y = 0
          · rw [q, path_0 h.1]; simp
          · rw [path_cons h.1 (by omega) hy]; simp
  refine x_aload_n (pc := 0) hC dX5_isOnPathOf_0 rfl ?_
  refine x_astore_n (pc := 1) hC dX5_isOnPathOf_1 (Nat.le_of_ble_eq_true rfl) ?_
  dsimp only [List.set]
  exact loop x.toNat x (Nat.le_refl _) hx.1 hx.2 Iff.rfl

set_option maxHeartbeats 4000000 in
set_option maxRecDepth 100000 in
theorem c_pathLength {G : ax_G} {T : Nat → Nat} {N : Nat → Int} {I : Nat → Int → Int} {R : Nat → Int → Option Nat} {z : Nat} {A w : Int → Nat} {m : Int} {p : Int → Int} (h : cmS T N I R A w m p) {c : Int} (hc : 0 ≤ c ∧ c < m) : axE G YX5_pathLength 0 [vR (A c)] T N I R z (some (vI ((path p c).length : Int))) I := by

  refine ax_enter (by decide) (Nat.le_of_ble_eq_true rfl) (ax_cat rfl) (fun f hC => ?_)
  show axX G f 0 0 _ 0 [vR (A c), vU, vU] [] T N I R z 0 0
  have loop : ∀ (n : Nat) (y k : Int), y.toNat ≤ n → 0 ≤ y → y < m → k + (path p y).length = (path p c).length → axX G f 0 0 (fun r1 T1 N1 I1 R1 z1 => r1 = some (vI ((path p c).length : Int)) ∧ T1 = T ∧ N1 = N ∧ I1 = I ∧ R1 = R ∧ z1 = z) 4 [vR (A c), vI k, vR (A y)] [] T N I R z 0 0 := by
    intro n
    induction n with
    | zero =>
      intro y k hn h0 hy he
      have hy0 : y = 0 := by omega
      obtain ⟨h1, h2, h3, h4, h5⟩ := h.2 y h0 hy
      rw [if_pos hy0] at h3
      refine x_aload_n (pc := 4) hC dX5_pathLength_4 rfl ?_
      refine x_ifnull (pc := 5) hC 19 dX5_pathLength_5 (by decide) (fun h => by cases h) (fun _ _ => ?_)
      refine x_iinc (pc := 8) hC dX5_pathLength_8 rfl ?_
      dsimp only [List.set]
      refine x_aload_n (pc := 11) hC dX5_pathLength_11 rfl ?_
      refine x_getO (pc := 12) hC (gp_X5_19 h1) dX5_pathLength_12 rfl h3 ?_
      refine x_astore_n (pc := 15) hC dX5_pathLength_15 (Nat.le_of_ble_eq_true rfl) ?_
      dsimp only [List.set]
      refine x_goto (pc := 16) hC 4 dX5_pathLength_16 (by decide) ?_
      refine x_aload_n (pc := 4) hC dX5_pathLength_4 rfl ?_
      refine x_ifnull (pc := 5) hC 19 dX5_pathLength_5 (by decide) (fun _ => ?_) (fun _ h => by cases h)
      refine x_iload_n (pc := 19) hC dX5_pathLength_19 rfl ?_
      refine x_iret (pc := 20) hC rfl dX5_pathLength_20 ?_
      refine ⟨?_, rfl, rfl, rfl, rfl, rfl⟩
      rw [hy0, path_0 h.1] at he
      rw [← he]
      rfl
    | succ n ih =>
      intro y k hn h0 hy he
      obtain ⟨h1, h2, h3, h4, h5⟩ := h.2 y h0 hy
      by_cases hy0 : y = 0
      · rw [if_pos hy0] at h3
        refine x_aload_n (pc := 4) hC dX5_pathLength_4 rfl ?_
        refine x_ifnull (pc := 5) hC 19 dX5_pathLength_5 (by decide) (fun h => by cases h) (fun _ _ => ?_)
        refine x_iinc (pc := 8) hC dX5_pathLength_8 rfl ?_
        dsimp only [List.set]
        refine x_aload_n (pc := 11) hC dX5_pathLength_11 rfl ?_
        refine x_getO (pc := 12) hC (gp_X5_19 h1) dX5_pathLength_12 rfl h3 ?_
        refine x_astore_n (pc := 15) hC dX5_pathLength_15 (Nat.le_of_ble_eq_true rfl) ?_
        dsimp only [List.set]
        refine x_goto (pc := 16) hC 4 dX5_pathLength_16 (by decide) ?_
        refine x_aload_n (pc := 4) hC dX5_pathLength_4 rfl ?_
        refine x_ifnull (pc := 5) hC 19 dX5_pathLength_5 (by decide) (fun _ => ?_) (fun _ h => by cases h)
        refine x_iload_n (pc := 19) hC dX5_pathLength_19 rfl ?_
        refine x_iret (pc := 20) hC rfl dX5_pathLength_20 ?_
        refine ⟨?_, rfl, rfl, rfl, rfl, rfl⟩
        rw [hy0, path_0 h.1] at he
        rw [← he]
        rfl
      · rw [if_neg hy0] at h3
        have hp := h.1.2 y (by omega) hy
        obtain ⟨g1, -⟩ := h.2 (p y) hp.1 (by omega)
        refine x_aload_n (pc := 4) hC dX5_pathLength_4 rfl ?_
        refine x_ifnull (pc := 5) hC 19 dX5_pathLength_5 (by decide) (fun h => by cases h) (fun _ _ => ?_)
        refine x_iinc (pc := 8) hC dX5_pathLength_8 rfl ?_
        dsimp only [List.set]
        refine x_aload_n (pc := 11) hC dX5_pathLength_11 rfl ?_
        refine x_getO (pc := 12) hC (gp_X5_19 h1) dX5_pathLength_12 rfl h3 ?_
        refine x_astore_n (pc := 15) hC dX5_pathLength_15 (Nat.le_of_ble_eq_true rfl) ?_
        dsimp only [List.set]
        refine x_goto (pc := 16) hC 4 dX5_pathLength_16 (by decide) ?_
        refine ih (p y) (k + 1) (by omega) hp.1 (by omega) ?_
        rw [path_cons h.1 (by omega) hy] at he
        simp only [List.length_cons] at he
        omega
  refine x_iconst (pc := 0) hC dX5_pathLength_0 ?_
  refine x_istore_n (pc := 1) hC dX5_pathLength_1 (Nat.le_of_ble_eq_true rfl) ?_
  dsimp only [List.set]
  refine x_aload_n (pc := 2) hC dX5_pathLength_2 rfl ?_
  refine x_astore_n (pc := 3) hC dX5_pathLength_3 (Nat.le_of_ble_eq_true rfl) ?_
  dsimp only [List.set]
  exact loop c.toNat c 0 (Nat.le_refl _) hc.1 hc.2 (by omega)

set_option maxHeartbeats 4000000 in
set_option maxRecDepth 100000 in
theorem c_countNot {G : ax_G} {T : Nat → Nat} {N : Nat → Int} {I : Nat → Int → Int} {R : Nat → Int → Option Nat} {z : Nat} {A w : Int → Nat} {m : Int} {p : Int → Int} (h : cmS T N I R A w m p) {c d : Int} (hc : 0 ≤ c ∧ c < m) (hd : 0 ≤ d ∧ d < m) : axE G YX5_countNotOnPathOf 1 [vR (A c), vR (A d)] T N I R z (some (vI (((path p c).filter (fun y => decide (y ∉ path p d))).length : Int))) I := by

  refine ax_enter (by decide) (Nat.le_of_ble_eq_true rfl) (ax_cat rfl) (fun f hC => ?_)
  show axX G f 0 0 _ 0 [vR (A c), vR (A d), vU, vU] [] T N I R z 0 0
  have loop : ∀ (n : Nat) (y k : Int), y.toNat ≤ n → 0 ≤ y → y < m → k + ((path p y).filter (fun y => decide (y ∉ path p d))).length = ((path p c).filter (fun y => decide (y ∉ path p d))).length → axX G f 0 0 (fun r1 T1 N1 I1 R1 z1 => r1 = some (vI (((path p c).filter (fun y => decide (y ∉ path p d))).length : Int)) ∧ T1 = T ∧ N1 = N ∧ I1 = I ∧ R1 = R ∧ z1 = z) 4 [vR (A c), vR (A d), vI k, vR (A y)] [] T N I R z 0 0 := by
    intro n
    induction n with
    | zero =>
      intro y k hn h0 hy he
      have hy0 : y = 0 := by omega
      obtain ⟨h1, h2, h3, h4, h5⟩ := h.2 y h0 hy
      rw [if_pos hy0] at h3
      have hpy : path p y = [y] := by rw [hy0]; exact path_0 h.1
      refine x_aload_n (pc := 4) hC dX5_countNotOnPathOf_4 rfl ?_
      refine x_ifnull (pc := 5) hC 32 dX5_countNotOnPathOf_5 (by decide) (fun h => by cases h) (fun _ _ => ?_)
      refine x_iload_n (pc := 8) hC dX5_countNotOnPathOf_8 rfl ?_
      refine x_aload_n (pc := 9) hC dX5_countNotOnPathOf_9 rfl ?_
      refine x_aload_n (pc := 10) hC dX5_countNotOnPathOf_10 rfl ?_
      refine x_mU (pc := 11) hC (cq_X5_40 h1) dX5_countNotOnPathOf_11 (c_isOnPathOf h ⟨h0, hy⟩ hd) rfl rfl (by decide) rfl rfl (Nat.le_of_ble_eq_true rfl) ?_
      refine x_ifB_eq (pc := 14) hC 21 dX5_countNotOnPathOf_14 (by decide) (fun b14 => ?_) (fun b14 => ?_)
      · refine x_iconst (pc := 21) hC dX5_countNotOnPathOf_21 ?_
        refine x_iadd (pc := 22) hC dX5_countNotOnPathOf_22 ?_
        refine x_istore_n (pc := 23) hC dX5_countNotOnPathOf_23 (Nat.le_of_ble_eq_true rfl) ?_
        dsimp only [List.set]
        refine x_aload_n (pc := 24) hC dX5_countNotOnPathOf_24 rfl ?_
        refine x_getO (pc := 25) hC (gp_X5_19 h1) dX5_countNotOnPathOf_25 rfl h3 ?_
        refine x_astore_n (pc := 28) hC dX5_countNotOnPathOf_28 (Nat.le_of_ble_eq_true rfl) ?_
        dsimp only [List.set]
        refine x_goto (pc := 29) hC 4 dX5_countNotOnPathOf_29 (by decide) ?_
        refine x_aload_n (pc := 4) hC dX5_countNotOnPathOf_4 rfl ?_
        refine x_ifnull (pc := 5) hC 32 dX5_countNotOnPathOf_5 (by decide) (fun _ => ?_) (fun _ h => by cases h)
        refine x_iload_n (pc := 32) hC dX5_countNotOnPathOf_32 rfl ?_
        refine x_iret (pc := 33) hC rfl dX5_countNotOnPathOf_33 ?_
        refine ⟨?_, rfl, rfl, rfl, rfl, rfl⟩
        rw [hpy] at he
        first
        | (rw [List.filter_cons_of_pos (by simpa using b14)] at he; rw [← he]; rfl)
        | (rw [List.filter_cons_of_neg (by simpa using b14)] at he; rw [← he]; rfl)
      · refine x_iconst (pc := 17) hC dX5_countNotOnPathOf_17 ?_
        refine x_goto (pc := 18) hC 22 dX5_countNotOnPathOf_18 (by decide) ?_
        refine x_iadd (pc := 22) hC dX5_countNotOnPathOf_22 ?_
        refine x_istore_n (pc := 23) hC dX5_countNotOnPathOf_23 (Nat.le_of_ble_eq_true rfl) ?_
        dsimp only [List.set]
        refine x_aload_n (pc := 24) hC dX5_countNotOnPathOf_24 rfl ?_
        refine x_getO (pc := 25) hC (gp_X5_19 h1) dX5_countNotOnPathOf_25 rfl h3 ?_
        refine x_astore_n (pc := 28) hC dX5_countNotOnPathOf_28 (Nat.le_of_ble_eq_true rfl) ?_
        dsimp only [List.set]
        refine x_goto (pc := 29) hC 4 dX5_countNotOnPathOf_29 (by decide) ?_
        refine x_aload_n (pc := 4) hC dX5_countNotOnPathOf_4 rfl ?_
        refine x_ifnull (pc := 5) hC 32 dX5_countNotOnPathOf_5 (by decide) (fun _ => ?_) (fun _ h => by cases h)
        refine x_iload_n (pc := 32) hC dX5_countNotOnPathOf_32 rfl ?_
        refine x_iret (pc := 33) hC rfl dX5_countNotOnPathOf_33 ?_
        refine ⟨?_, rfl, rfl, rfl, rfl, rfl⟩
        rw [hpy] at he
        first
        | (rw [List.filter_cons_of_pos (by simpa using b14)] at he; rw [← he]; rfl)
        | (rw [List.filter_cons_of_neg (by simpa using b14)] at he; rw [← he]; rfl)
    | succ n ih =>
      intro y k hn h0 hy he
      obtain ⟨h1, h2, h3, h4, h5⟩ := h.2 y h0 hy
      by_cases hy0 : y = 0
      · rw [if_pos hy0] at h3
        have hpy : path p y = [y] := by rw [hy0]; exact path_0 h.1
        refine x_aload_n (pc := 4) hC dX5_countNotOnPathOf_4 rfl ?_
        refine x_ifnull (pc := 5) hC 32 dX5_countNotOnPathOf_5 (by decide) (fun h => by cases h) (fun _ _ => ?_)
        refine x_iload_n (pc := 8) hC dX5_countNotOnPathOf_8 rfl ?_
        refine x_aload_n (pc := 9) hC dX5_countNotOnPathOf_9 rfl ?_
        refine x_aload_n (pc := 10) hC dX5_countNotOnPathOf_10 rfl ?_
        refine x_mU (pc := 11) hC (cq_X5_40 h1) dX5_countNotOnPathOf_11 (c_isOnPathOf h ⟨h0, hy⟩ hd) rfl rfl (by decide) rfl rfl (Nat.le_of_ble_eq_true rfl) ?_
        refine x_ifB_eq (pc := 14) hC 21 dX5_countNotOnPathOf_14 (by decide) (fun b14 => ?_) (fun b14 => ?_)
        · refine x_iconst (pc := 21) hC dX5_countNotOnPathOf_21 ?_
          refine x_iadd (pc := 22) hC dX5_countNotOnPathOf_22 ?_
          refine x_istore_n (pc := 23) hC dX5_countNotOnPathOf_23 (Nat.le_of_ble_eq_true rfl) ?_
          dsimp only [List.set]
          refine x_aload_n (pc := 24) hC dX5_countNotOnPathOf_24 rfl ?_
          refine x_getO (pc := 25) hC (gp_X5_19 h1) dX5_countNotOnPathOf_25 rfl h3 ?_
          refine x_astore_n (pc := 28) hC dX5_countNotOnPathOf_28 (Nat.le_of_ble_eq_true rfl) ?_
          dsimp only [List.set]
          refine x_goto (pc := 29) hC 4 dX5_countNotOnPathOf_29 (by decide) ?_
          refine x_aload_n (pc := 4) hC dX5_countNotOnPathOf_4 rfl ?_
          refine x_ifnull (pc := 5) hC 32 dX5_countNotOnPathOf_5 (by decide) (fun _ => ?_) (fun _ h => by cases h)
          refine x_iload_n (pc := 32) hC dX5_countNotOnPathOf_32 rfl ?_
          refine x_iret (pc := 33) hC rfl dX5_countNotOnPathOf_33 ?_
          refine ⟨?_, rfl, rfl, rfl, rfl, rfl⟩
          rw [hpy] at he
          first
          | (rw [List.filter_cons_of_pos (by simpa using b14)] at he; rw [← he]; rfl)
          | (rw [List.filter_cons_of_neg (by simpa using b14)] at he; rw [← he]; rfl)
        · refine x_iconst (pc := 17) hC dX5_countNotOnPathOf_17 ?_
          refine x_goto (pc := 18) hC 22 dX5_countNotOnPathOf_18 (by decide) ?_
          refine x_iadd (pc := 22) hC dX5_countNotOnPathOf_22 ?_
          refine x_istore_n (pc := 23) hC dX5_countNotOnPathOf_23 (Nat.le_of_ble_eq_true rfl) ?_
          dsimp only [List.set]
          refine x_aload_n (pc := 24) hC dX5_countNotOnPathOf_24 rfl ?_
          refine x_getO (pc := 25) hC (gp_X5_19 h1) dX5_countNotOnPathOf_25 rfl h3 ?_
          refine x_astore_n (pc := 28) hC dX5_countNotOnPathOf_28 (Nat.le_of_ble_eq_true rfl) ?_
          dsimp only [List.set]
          refine x_goto (pc := 29) hC 4 dX5_countNotOnPathOf_29 (by decide) ?_
          refine x_aload_n (pc := 4) hC dX5_countNotOnPathOf_4 rfl ?_
          refine x_ifnull (pc := 5) hC 32 dX5_countNotOnPathOf_5 (by decide) (fun _ => ?_) (fun _ h => by cases h)
          refine x_iload_n (pc := 32) hC dX5_countNotOnPathOf_32 rfl ?_
          refine x_iret (pc := 33) hC rfl dX5_countNotOnPathOf_33 ?_
          refine ⟨?_, rfl, rfl, rfl, rfl, rfl⟩
          rw [hpy] at he
          first
          | (rw [List.filter_cons_of_pos (by simpa using b14)] at he; rw [← he]; rfl)
          | (rw [List.filter_cons_of_neg (by simpa using b14)] at he; rw [← he]; rfl)
      · rw [if_neg hy0] at h3
        have hp := h.1.2 y (by omega) hy
        obtain ⟨g1, -⟩ := h.2 (p y) hp.1 (by omega)
        refine x_aload_n (pc := 4) hC dX5_countNotOnPathOf_4 rfl ?_
        refine x_ifnull (pc := 5) hC 32 dX5_countNotOnPathOf_5 (by decide) (fun h => by cases h) (fun _ _ => ?_)
        refine x_iload_n (pc := 8) hC dX5_countNotOnPathOf_8 rfl ?_
        refine x_aload_n (pc := 9) hC dX5_countNotOnPathOf_9 rfl ?_
        refine x_aload_n (pc := 10) hC dX5_countNotOnPathOf_10 rfl ?_
        refine x_mU (pc := 11) hC (cq_X5_40 h1) dX5_countNotOnPathOf_11 (c_isOnPathOf h ⟨h0, hy⟩ hd) rfl rfl (by decide) rfl rfl (Nat.le_of_ble_eq_true rfl) ?_
        refine x_ifB_eq (pc := 14) hC 21 dX5_countNotOnPathOf_14 (by decide) (fun b14 => ?_) (fun b14 => ?_)
        · refine x_iconst (pc := 21) hC dX5_countNotOnPathOf_21 ?_
          refine x_iadd (pc := 22) hC dX5_countNotOnPathOf_22 ?_
          refine x_istore_n (pc := 23) hC dX5_countNotOnPathOf_23 (Nat.le_of_ble_eq_true rfl) ?_
          dsimp only [List.set]
          refine x_aload_n (pc := 24) hC dX5_countNotOnPathOf_24 rfl ?_
          refine x_getO (pc := 25) hC (gp_X5_19 h1) dX5_countNotOnPathOf_25 rfl h3 ?_
          refine x_astore_n (pc := 28) hC dX5_countNotOnPathOf_28 (Nat.le_of_ble_eq_true rfl) ?_
          dsimp only [List.set]
          refine x_goto (pc := 29) hC 4 dX5_countNotOnPathOf_29 (by decide) ?_
          refine ih (p y) _ (by omega) hp.1 (by omega) ?_
          rw [path_cons h.1 (by omega) hy] at he
          first
          | (rw [List.filter_cons_of_pos (by simpa using b14)] at he; simp only [List.length_cons] at he; omega)
          | (rw [List.filter_cons_of_neg (by simpa using b14)] at he; omega)
        · refine x_iconst (pc := 17) hC dX5_countNotOnPathOf_17 ?_
          refine x_goto (pc := 18) hC 22 dX5_countNotOnPathOf_18 (by decide) ?_
          refine x_iadd (pc := 22) hC dX5_countNotOnPathOf_22 ?_
          refine x_istore_n (pc := 23) hC dX5_countNotOnPathOf_23 (Nat.le_of_ble_eq_true rfl) ?_
          dsimp only [List.set]
          refine x_aload_n (pc := 24) hC dX5_countNotOnPathOf_24 rfl ?_
          refine x_getO (pc := 25) hC (gp_X5_19 h1) dX5_countNotOnPathOf_25 rfl h3 ?_
          refine x_astore_n (pc := 28) hC dX5_countNotOnPathOf_28 (Nat.le_of_ble_eq_true rfl) ?_
          dsimp only [List.set]
          refine x_goto (pc := 29) hC 4 dX5_countNotOnPathOf_29 (by decide) ?_
          refine ih (p y) _ (by omega) hp.1 (by omega) ?_
          rw [path_cons h.1 (by omega) hy] at he
          first
          | (rw [List.filter_cons_of_pos (by simpa using b14)] at he; simp only [List.length_cons] at he; omega)
          | (rw [List.filter_cons_of_neg (by simpa using b14)] at he; omega)
  refine x_iconst (pc := 0) hC dX5_countNotOnPathOf_0 ?_
  refine x_istore_n (pc := 1) hC dX5_countNotOnPathOf_1 (Nat.le_of_ble_eq_true rfl) ?_
  dsimp only [List.set]
  refine x_aload_n (pc := 2) hC dX5_countNotOnPathOf_2 rfl ?_
  refine x_astore_n (pc := 3) hC dX5_countNotOnPathOf_3 (Nat.le_of_ble_eq_true rfl) ?_
  dsimp only [List.set]
  exact loop c.toNat c 0 (Nat.le_refl _) hc.1 hc.2 (by omega)

