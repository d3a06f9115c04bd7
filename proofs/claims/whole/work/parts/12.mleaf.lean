/-! THE REFERENCE's leaves -/
/-- the path of a commit, itself first: by the parents -/
def pth (p : Int → Int) : Nat → Int → List Int
  | 0, _ => []
  | n + 1, x => if x < 0 then [] else x :: pth p n (p x)
def path (p : Int → Int) (x : Int) : List Int := pth p (x.toNat + 1) x
/-- parents come before -/
def PW (p : Int → Int) (m : Int) : Prop := p 0 < 0 ∧ ∀ x, 0 < x → x < m → 0 ≤ p x ∧ p x < x
theorem pth_fuel {p : Int → Int} {m : Int} (h : PW p m) : ∀ (n k : Nat) (x : Int), x < m → x.toNat + 1 ≤ n → x.toNat + 1 ≤ k → pth p n x = pth p k x := by
  intro n
  induction n with
  | zero => intro k x _ h1; omega
  | succ n ih =>
    intro k x hm h1 h2
    cases k with
    | zero => omega
    | succ k =>
      simp only [pth]
      by_cases hx : x < 0
      · rw [if_pos hx, if_pos hx]
      · rw [if_neg hx, if_neg hx]
        by_cases h0 : x = 0
        · subst h0
          have hp := h.1
          cases n with
          | zero => cases k with
            | zero => rfl
            | succ k => simp only [pth, if_pos hp]
          | succ n => cases k with
            | zero => simp only [pth, if_pos hp]
            | succ k => simp only [pth, if_pos hp]
        · have hq := h.2 x (by omega) hm
          rw [ih k (p x) (by omega) (by omega) (by omega)]
theorem path_0 {p : Int → Int} {m : Int} (h : PW p m) : path p 0 = [0] := by
  have hp := h.1
  simp [path, pth]
theorem path_cons {p : Int → Int} {m x : Int} (h : PW p m) (h0 : 0 < x) (hm : x < m) : path p x = x :: path p (p x) := by
  have hq := h.2 x h0 hm
  unfold path
  simp only [pth]
  rw [if_neg (by omega), pth_fuel h x.toNat ((p x).toNat + 1) (p x) (by omega) (by omega) (by omega)]
  rfl
theorem path_neg {p : Int → Int} {x : Int} (hx : x < 0) : path p x = [] := by
  unfold path
  simp only [pth]
  rw [if_pos hx]
theorem path_in {p : Int → Int} {m : Int} (h : PW p m) : ∀ (n : Nat) (x c : Int), x.toNat ≤ n → x < m → c ∈ path p x → 0 ≤ c ∧ c ≤ x := by
  intro n
  induction n with
  | zero =>
    intro x c hn hm hc
    by_cases hx : x < 0
    · rw [path_neg hx] at hc; simp at hc
    · have : x = 0 := by omega
      subst this
      rw [path_0 h] at hc
      simp at hc
      omega
  | succ n ih =>
    intro x c hn hm hc
    by_cases hx : x < 0
    · rw [path_neg hx] at hc; simp at hc
    · by_cases h0 : x = 0
      · subst h0
        rw [path_0 h] at hc
        simp at hc
        omega
      · have hq := h.2 x (by omega) hm
        rw [path_cons h (by omega) hm] at hc
        rcases List.mem_cons.mp hc with rfl | hc
        · omega
        · have := ih (p x) c (by omega) (by omega) hc
          omega
theorem path_self {p : Int → Int} {m x : Int} (h : PW p m) (h0 : 0 ≤ x) (hm : x < m) : x ∈ path p x := by
  by_cases hx : x = 0
  · subst hx; rw [path_0 h]; simp
  · rw [path_cons h (by omega) hm]; simp
theorem path_up {p : Int → Int} {m x c : Int} (h : PW p m) (h0 : 0 < x) (hm : x < m) (hc : c < x) : c ∈ path p x ↔ c ∈ path p (p x) := by
  rw [path_cons h h0 hm]
  simp only [List.mem_cons]
  constructor
  · rintro (h | h)
    · omega
    · exact h
  · exact Or.inr
theorem path_end {p : Int → Int} {m x c : Int} (h : PW p m) (h0 : 0 ≤ x) (hm : x < m) (hc : x ≤ c) : c ∈ path p x ↔ x = c := by
  constructor
  · intro hq
    have := path_in h x.toNat x c (Nat.le_refl _) hm hq
    omega
  · rintro rfl
    exact path_self h h0 hm

set_option maxHeartbeats 4000000 in
set_option maxRecDepth 100000 in
theorem m_within {G : ax_G} {T : Nat → Nat} {N : Nat → Int} {I : Nat → Int → Int} {R : Nat → Int → Option Nat} {z : Nat} {v a b : Int} (hv : ax_r v) (ha : ax_r a) (hb : ax_r b) : axE G YX12_within 0 [vI v, vI a, vI b] T N I R z (some (vI (bI (a ≤ v ∧ v ≤ b)))) I := by
  refine ax_enter (by decide) (Nat.le_of_ble_eq_true rfl) (ax_cat rfl) (fun f hC => ?_)
  show axX G f 0 0 _ 0 [vI v, vI a, vI b] [] T N I R z 0 0
  refine x_iload_n (pc := 0) hC dX12_within_0 rfl ?_
  refine x_iload_n (pc := 1) hC dX12_within_1 rfl ?_
  refine x_icmp_lt (pc := 2) hC 14 dX12_within_2 (by decide) (by omega) (by omega) (fun b2 => ?_) (fun b2 => ?_)
  · refine x_iconst (pc := 14) hC dX12_within_14 ?_
    refine x_zret (pc := 15) hC rfl dX12_within_15 (Or.inl rfl) ?_
    exact ⟨by first | rw [bI_t (by omega)] | rw [bI_f (by omega)], rfl, rfl, rfl, rfl, rfl⟩
  · refine x_iload_n (pc := 5) hC dX12_within_5 rfl ?_
    refine x_iload_n (pc := 6) hC dX12_within_6 rfl ?_
    refine x_icmp_gt (pc := 7) hC 14 dX12_within_7 (by decide) (by omega) (by omega) (fun b7 => ?_) (fun b7 => ?_)
    · refine x_iconst (pc := 14) hC dX12_within_14 ?_
      refine x_zret (pc := 15) hC rfl dX12_within_15 (Or.inl rfl) ?_
      exact ⟨by first | rw [bI_t (by omega)] | rw [bI_f (by omega)], rfl, rfl, rfl, rfl, rfl⟩
    · refine x_iconst (pc := 10) hC dX12_within_10 ?_
      refine x_goto (pc := 11) hC 15 dX12_within_11 (by decide) ?_
      refine x_zret (pc := 15) hC rfl dX12_within_15 (Or.inr rfl) ?_
      exact ⟨by first | rw [bI_t (by omega)] | rw [bI_f (by omega)], rfl, rfl, rfl, rfl, rfl⟩
set_option maxHeartbeats 4000000 in
set_option maxRecDepth 100000 in
theorem m_isCommit {G : ax_G} {T : Nat → Nat} {N : Nat → Int} {I : Nat → Int → Int} {R : Nat → Int → Option Nat} {z o : Nat} (M : axMo T N R o) {c : Int} (hc : ax_r c) (hm : 0 ≤ (I o 2) ∧ (I o 2) ≤ 24) : axE G YX12_isCommit 1 [vR o, vI c] T N I R z (some (vI (bI (0 ≤ c ∧ c < (I o 2))))) I := by
  refine ax_enter (by decide) (Nat.le_of_ble_eq_true rfl) (ax_cat rfl) (fun f hC => ?_)
  show axX G f 0 0 _ 0 [vR o, vI c] [] T N I R z 0 0
  refine x_iload_n (pc := 0) hC dX12_isCommit_0 rfl ?_
  refine x_iconst (pc := 1) hC dX12_isCommit_1 ?_
  refine x_aload_n (pc := 2) hC dX12_isCommit_2 rfl ?_
  refine x_getI (pc := 3) hC gf_X12_129 dX12_isCommit_3 M.1 ?_
  refine x_iconst (pc := 6) hC dX12_isCommit_6 ?_
  refine x_isub (pc := 7) hC dX12_isCommit_7 ?_
  refine x_mS (pc := 8) hC cs_X12_139 dX12_isCommit_8 (m_within hc (by decide) (by omega)) rfl (by decide) rfl rfl (Nat.le_of_ble_eq_true rfl) ?_
  refine x_zretB (pc := 11) hC rfl dX12_isCommit_11 ?_
  exact ⟨by rw [bI_c (show (0 ≤ c ∧ c ≤ (I o 2) - 1) ↔ (0 ≤ c ∧ c < (I o 2)) by omega)], rfl, rfl, rfl, rfl, rfl⟩
set_option maxHeartbeats 4000000 in
set_option maxRecDepth 100000 in
theorem m_isBranch {G : ax_G} {T : Nat → Nat} {N : Nat → Int} {I : Nat → Int → Int} {R : Nat → Int → Option Nat} {z : Nat} {c : Int} (hc : ax_r c) : axE G YX12_isBranch 1 [vI c] T N I R z (some (vI (bI (0 ≤ c ∧ c < 4)))) I := by
  refine ax_enter (by decide) (Nat.le_of_ble_eq_true rfl) (ax_cat rfl) (fun f hC => ?_)
  show axX G f 0 0 _ 0 [vI c] [] T N I R z 0 0
  refine x_iload_n (pc := 0) hC dX12_isBranch_0 rfl ?_
  refine x_iconst (pc := 1) hC dX12_isBranch_1 ?_
  refine x_iconst (pc := 2) hC dX12_isBranch_2 ?_
  refine x_mS (pc := 3) hC cs_X12_139 dX12_isBranch_3 (m_within hc (by decide) (by decide)) rfl (by decide) rfl rfl (Nat.le_of_ble_eq_true rfl) ?_
  refine x_zretB (pc := 6) hC rfl dX12_isBranch_6 ?_
  exact ⟨by rw [bI_c (show (0 ≤ c ∧ c ≤ 3) ↔ (0 ≤ c ∧ c < 4) by omega)], rfl, rfl, rfl, rfl, rfl⟩
set_option maxHeartbeats 4000000 in
set_option maxRecDepth 100000 in
theorem m_isSlot {G : ax_G} {T : Nat → Nat} {N : Nat → Int} {I : Nat → Int → Int} {R : Nat → Int → Option Nat} {z : Nat} {c : Int} (hc : ax_r c) : axE G YX12_isSlot 1 [vI c] T N I R z (some (vI (bI (0 ≤ c ∧ c < 5)))) I := by
  refine ax_enter (by decide) (Nat.le_of_ble_eq_true rfl) (ax_cat rfl) (fun f hC => ?_)
  show axX G f 0 0 _ 0 [vI c] [] T N I R z 0 0
  refine x_iload_n (pc := 0) hC dX12_isSlot_0 rfl ?_
  refine x_iconst (pc := 1) hC dX12_isSlot_1 ?_
  refine x_iconst (pc := 2) hC dX12_isSlot_2 ?_
  refine x_mS (pc := 3) hC cs_X12_139 dX12_isSlot_3 (m_within hc (by decide) (by decide)) rfl (by decide) rfl rfl (Nat.le_of_ble_eq_true rfl) ?_
  refine x_zretB (pc := 6) hC rfl dX12_isSlot_6 ?_
  exact ⟨by rw [bI_c (show (0 ≤ c ∧ c ≤ 4) ↔ (0 ≤ c ∧ c < 5) by omega)], rfl, rfl, rfl, rfl, rfl⟩
set_option maxHeartbeats 4000000 in
set_option maxRecDepth 100000 in
theorem m_leaves {G : ax_G} {T : Nat → Nat} {N : Nat → Int} {I : Nat → Int → Int} {R : Nat → Int → Option Nat} {z o : Nat} (M : axMo T N R o) {c : Int} : axE G YX12_leaves 0 [vR o, vI c] T N I R z none (ax_u I o 1 (31 * (I o 1) + c)) := by
  refine ax_enter (by decide) (Nat.le_of_ble_eq_true rfl) (ax_cat rfl) (fun f hC => ?_)
  show axX G f 0 0 _ 0 [vR o, vI c] [] T N I R z 0 0
  refine x_aload_n (pc := 0) hC dX12_leaves_0 rfl ?_
  refine x_bipush (pc := 1) hC dX12_leaves_1 (by decide) ?_
  refine x_aload_n (pc := 3) hC dX12_leaves_3 rfl ?_
  refine x_getI (pc := 4) hC gf_X12_126 dX12_leaves_4 M.1 ?_
  refine x_imul (pc := 7) hC dX12_leaves_7 ?_
  refine x_iload_n (pc := 8) hC dX12_leaves_8 rfl ?_
  refine x_iadd (pc := 9) hC dX12_leaves_9 ?_
  refine x_putI (pc := 10) hC pf_X12_126 dX12_leaves_10 M.1 (by decide) ?_
  refine x_vret (pc := 13) hC rfl dX12_leaves_13 ?_
  exact ⟨rfl, rfl, rfl, rfl, rfl, rfl⟩
set_option maxHeartbeats 4000000 in
set_option maxRecDepth 100000 in
theorem m_refused {G : ax_G} {T : Nat → Nat} {N : Nat → Int} {I : Nat → Int → Int} {R : Nat → Int → Option Nat} {z o : Nat} (M : axMo T N R o) {c : Int} : axE G YX12_refused 0 [vR o, vI c] T N I R z (some (vI c)) (ax_u I o 0 0) := by
  refine ax_enter (by decide) (Nat.le_of_ble_eq_true rfl) (ax_cat rfl) (fun f hC => ?_)
  show axX G f 0 0 _ 0 [vR o, vI c] [] T N I R z 0 0
  refine x_aload_n (pc := 0) hC dX12_refused_0 rfl ?_
  refine x_iconst (pc := 1) hC dX12_refused_1 ?_
  refine x_putI (pc := 2) hC pf_X12_122 dX12_refused_2 M.1 (by decide) ?_
  refine x_iload_n (pc := 5) hC dX12_refused_5 rfl ?_
  refine x_iret (pc := 6) hC rfl dX12_refused_6 ?_
  exact ⟨rfl, rfl, rfl, rfl, rfl, rfl⟩
set_option maxHeartbeats 4000000 in
set_option maxRecDepth 100000 in
theorem m_fails {G : ax_G} {T : Nat → Nat} {N : Nat → Int} {I : Nat → Int → Int} {R : Nat → Int → Option Nat} {z o : Nat} (M : axMo T N R o) {c : Int} : axE G YX12_fails 0 [vR o, vI c] T N I R z (some (vI (-10 - c))) (ax_u I o 0 c) := by
  refine ax_enter (by decide) (Nat.le_of_ble_eq_true rfl) (ax_cat rfl) (fun f hC => ?_)
  show axX G f 0 0 _ 0 [vR o, vI c] [] T N I R z 0 0
  refine x_aload_n (pc := 0) hC dX12_fails_0 rfl ?_
  refine x_iload_n (pc := 1) hC dX12_fails_1 rfl ?_
  refine x_putI (pc := 2) hC pf_X12_122 dX12_fails_2 M.1 (by decide) ?_
  refine x_bipush (pc := 5) hC dX12_fails_5 (by decide) ?_
  refine x_iload_n (pc := 7) hC dX12_fails_7 rfl ?_
  refine x_isub (pc := 8) hC dX12_fails_8 ?_
  refine x_iret (pc := 9) hC rfl dX12_fails_9 ?_
  exact ⟨rfl, rfl, rfl, rfl, rfl, rfl⟩
set_option maxHeartbeats 4000000 in
set_option maxRecDepth 100000 in
theorem m_isOn {G : ax_G} {T : Nat → Nat} {N : Nat → Int} {I : Nat → Int → Int} {R : Nat → Int → Option Nat} {z o : Nat} (M : axMo T N R o) {c x m : Int} (hm : m ≤ 24) (hp : PW (I (o + 2)) m) (hc : 0 ≤ c) (hc2 : c < 24) (h0 : 0 ≤ x) (hx : x < m) : axE G YX12_isOn 0 [vR o, vI c, vI x] T N I R z (some (vI (bI (c ∈ path (I (o + 2)) x)))) I := by
  refine ax_enter (by decide) (Nat.le_of_ble_eq_true rfl) (ax_cat rfl) (fun f hC => ?_)
  show axX G f 0 0 _ 0 [vR o, vI c, vI x, vU] [] T N I R z 0 0
  have loop : ∀ (n : Nat) (y : Int), y.toNat ≤ n → 0 ≤ y → y < m → (c ∈ path (I (o + 2)) y ↔ c ∈ path (I (o + 2)) x) → axX G f 0 0 (fun r1 T1 N1 I1 R1 z1 => r1 = some (vI (bI (c ∈ path (I (o + 2)) x))) ∧ T1 = T ∧ N1 = N ∧ I1 = I ∧ R1 = R ∧ z1 = z) 2 [vR o, vI c, vI x, vI y] [] T N I R z 0 0 := by
    intro n
    induction n with
    | zero =>
      intro y hn h0 hy he
      refine x_iload_n (pc := 2) hC dX12_isOn_2 rfl ?_
      refine x_iload_n (pc := 3) hC dX12_isOn_3 rfl ?_
      refine x_icmp_le (pc := 4) hC 17 dX12_isOn_4 (by decide) (by omega) (by omega) (fun b4 => ?_) (fun b4 => ?_)
      · refine x_iload_n (pc := 17) hC dX12_isOn_17 rfl ?_
        refine x_iload_n (pc := 18) hC dX12_isOn_18 rfl ?_
        refine x_icmp_ne (pc := 19) hC 26 dX12_isOn_19 (by decide) (by omega) (by omega) (fun b19 => ?_) (fun b19 => ?_)
        · refine x_iconst (pc := 26) hC dX12_isOn_26 ?_
          refine x_zret (pc := 27) hC rfl dX12_isOn_27 (Or.inl rfl) ?_
          exact ⟨by first | rw [bI_t (he.mp ((path_end hp h0 hy (by omega)).mpr (by omega)))] | rw [bI_f (fun q => by have := (path_end hp h0 hy (by omega)).mp (he.mpr q); omega)], rfl, rfl, rfl, rfl, rfl⟩
        · refine x_iconst (pc := 22) hC dX12_isOn_22 ?_
          refine x_goto (pc := 23) hC 27 dX12_isOn_23 (by decide) ?_
          refine x_zret (pc := 27) hC rfl dX12_isOn_27 (Or.inr rfl) ?_
          exact ⟨by first | rw [bI_t (he.mp ((path_end hp h0 hy (by omega)).mpr (by omega)))] | rw [bI_f (fun q => by have := (path_end hp h0 hy (by omega)).mp (he.mpr q); omega)], rfl, rfl, rfl, rfl, rfl⟩
      · omega
    | succ n ih =>
      intro y hn h0 hy he
      refine x_iload_n (pc := 2) hC dX12_isOn_2 rfl ?_
      refine x_iload_n (pc := 3) hC dX12_isOn_3 rfl ?_
      refine x_icmp_le (pc := 4) hC 17 dX12_isOn_4 (by decide) (by omega) (by omega) (fun b4 => ?_) (fun b4 => ?_)
      · refine x_iload_n (pc := 17) hC dX12_isOn_17 rfl ?_
        refine x_iload_n (pc := 18) hC dX12_isOn_18 rfl ?_
        refine x_icmp_ne (pc := 19) hC 26 dX12_isOn_19 (by decide) (by omega) (by omega) (fun b19 => ?_) (fun b19 => ?_)
        · refine x_iconst (pc := 26) hC dX12_isOn_26 ?_
          refine x_zret (pc := 27) hC rfl dX12_isOn_27 (Or.inl rfl) ?_
          exact ⟨by first | rw [bI_t (he.mp ((path_end hp h0 hy (by omega)).mpr (by omega)))] | rw [bI_f (fun q => by have := (path_end hp h0 hy (by omega)).mp (he.mpr q); omega)], rfl, rfl, rfl, rfl, rfl⟩
        · refine x_iconst (pc := 22) hC dX12_isOn_22 ?_
          refine x_goto (pc := 23) hC 27 dX12_isOn_23 (by decide) ?_
          refine x_zret (pc := 27) hC rfl dX12_isOn_27 (Or.inr rfl) ?_
          exact ⟨by first | rw [bI_t (he.mp ((path_end hp h0 hy (by omega)).mpr (by omega)))] | rw [bI_f (fun q => by have := (path_end hp h0 hy (by omega)).mp (he.mpr q); omega)], rfl, rfl, rfl, rfl, rfl⟩
      · have hq := hp.2 y (by omega) hy
        refine x_aload_n (pc := 7) hC dX12_isOn_7 rfl ?_
        refine x_getO (pc := 8) hC gf_X12_13 dX12_isOn_8 M.1 (mo_parent M).1 ?_
        refine x_iload_n (pc := 11) hC dX12_isOn_11 rfl ?_
        refine x_iald (pc := 12) hC dX12_isOn_12 (mo_parent M).2.1 (by omega) (by rw [(mo_parent M).2.2]; omega) ?_
        refine x_istore_n (pc := 13) hC dX12_isOn_13 (Nat.le_of_ble_eq_true rfl) ?_
        dsimp only [List.set]
        refine x_goto (pc := 14) hC 2 dX12_isOn_14 (by decide) ?_
        exact ih _ (by omega) (by omega) (by omega) ((path_up hp (by omega) hy (by omega)).symm.trans he)
  refine x_iload_n (pc := 0) hC dX12_isOn_0 rfl ?_
  refine x_istore_n (pc := 1) hC dX12_isOn_1 (Nat.le_of_ble_eq_true rfl) ?_
  dsimp only [List.set]
  exact loop x.toNat x (Nat.le_refl _) h0 hx Iff.rfl
set_option maxHeartbeats 4000000 in
set_option maxRecDepth 100000 in
theorem m_far {G : ax_G} {T : Nat → Nat} {N : Nat → Int} {I : Nat → Int → Int} {R : Nat → Int → Option Nat} {z o : Nat} (M : axMo T N R o) {c m : Int} (hm : m ≤ 24) (hp : PW (I (o + 2)) m) (h0 : 0 ≤ c) (hc : c < m) : axE G YX12_far 0 [vR o, vI c] T N I R z (some (vI ((path (I (o + 2)) c).length : Int))) I := by
  refine ax_enter (by decide) (Nat.le_of_ble_eq_true rfl) (ax_cat rfl) (fun f hC => ?_)
  show axX G f 0 0 _ 0 [vR o, vI c, vU, vU] [] T N I R z 0 0
  have loop : ∀ (n : Nat) (y k : Int), y.toNat ≤ n → 0 ≤ y → y < m → k - 1 + (path (I (o + 2)) y).length = (path (I (o + 2)) c).length → axX G f 0 0 (fun r1 T1 N1 I1 R1 z1 => r1 = some (vI ((path (I (o + 2)) c).length : Int)) ∧ T1 = T ∧ N1 = N ∧ I1 = I ∧ R1 = R ∧ z1 = z) 4 [vR o, vI c, vI k, vI y] [] T N I R z 0 0 := by
    intro n
    induction n with
    | zero =>
      intro y k hn h0 hy he
      have hy0 : y = 0 := by omega
      have e0 : path (I (o + 2)) y = [0] := by rw [hy0]; exact path_0 hp
      rw [e0] at he
      simp at he
      refine x_iload_n (pc := 4) hC dX12_far_4 rfl ?_
      refine x_if_le (pc := 5) hC 21 dX12_far_5 (by decide) (by omega) (fun b5 => ?_) (fun b5 => ?_)
      · refine x_iload_n (pc := 21) hC dX12_far_21 rfl ?_
        refine x_iret (pc := 22) hC rfl dX12_far_22 ?_
        exact ⟨by rw [← he], rfl, rfl, rfl, rfl, rfl⟩
      · omega
    | succ n ih =>
      intro y k hn h0 hy he
      refine x_iload_n (pc := 4) hC dX12_far_4 rfl ?_
      refine x_if_le (pc := 5) hC 21 dX12_far_5 (by decide) (by omega) (fun b5 => ?_) (fun b5 => ?_)
      · refine x_iload_n (pc := 21) hC dX12_far_21 rfl ?_
        refine x_iret (pc := 22) hC rfl dX12_far_22 ?_
        have hy0 : y = 0 := by omega
        have e0 : path (I (o + 2)) y = [0] := by rw [hy0]; exact path_0 hp
        rw [e0] at he
        simp at he
        exact ⟨by rw [← he], rfl, rfl, rfl, rfl, rfl⟩
      · have hq := hp.2 y (by omega) hy
        refine x_aload_n (pc := 8) hC dX12_far_8 rfl ?_
        refine x_getO (pc := 9) hC gf_X12_13 dX12_far_9 M.1 (mo_parent M).1 ?_
        refine x_iload_n (pc := 12) hC dX12_far_12 rfl ?_
        refine x_iald (pc := 13) hC dX12_far_13 (mo_parent M).2.1 (by omega) (by rw [(mo_parent M).2.2]; omega) ?_
        refine x_istore_n (pc := 14) hC dX12_far_14 (Nat.le_of_ble_eq_true rfl) ?_
        dsimp only [List.set]
        refine x_iinc (pc := 15) hC dX12_far_15 rfl ?_
        dsimp only [List.set]
        refine x_goto (pc := 18) hC 4 dX12_far_18 (by decide) ?_
        exact ih _ _ (by omega) (by omega) (by omega) (by rw [path_cons hp (by omega) hy] at he; simp at he; omega)
  refine x_iconst (pc := 0) hC dX12_far_0 ?_
  refine x_istore_n (pc := 1) hC dX12_far_1 (Nat.le_of_ble_eq_true rfl) ?_
  dsimp only [List.set]
  refine x_iload_n (pc := 2) hC dX12_far_2 rfl ?_
  refine x_istore_n (pc := 3) hC dX12_far_3 (Nat.le_of_ble_eq_true rfl) ?_
  dsimp only [List.set]
  exact loop c.toNat c 1 (Nat.le_refl _) h0 hc (by omega)
