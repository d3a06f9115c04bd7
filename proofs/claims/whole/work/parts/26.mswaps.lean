/-! what lies within the rows alone matters -/
theorem fj_congr {P Q : Int → Prop} [DecidablePred P] [DecidablePred Q] : ∀ (n : Nat) (j : Int), (∀ i, j ≤ i → i < j + n → (P i ↔ Q i)) → fj P n j = fj Q n j := by
  intro n
  induction n with
  | zero => intro j _; rfl
  | succ n ih =>
    intro j h
    have h1 := h j (by omega) (by omega)
    have h2 := ih (j + 1) (fun i a b => h i (by omega) (by omega))
    simp only [fj, h2]
    by_cases hp : P j
    · rw [if_pos hp, if_pos (h1.mp hp)]
    · rw [if_neg hp, if_neg (fun q => hp (h1.mpr q))]
theorem mtN_congr {a b a' b' : Int → Int} {na nb i : Int} {q : Int × Int} (ha : ∀ k, 0 ≤ k → k < na → a k = a' k) (hb : ∀ k, 0 ≤ k → k < nb → b k = b' k) (h0 : 0 ≤ i) (h1 : i < na) (hq : 0 ≤ q.2) : mtN a b na nb i q = mtN a' b' na nb i q := by
  unfold mtN
  apply fj_congr
  intro j hj hj2
  rw [ha i h0 h1, hb j (by omega) (by omega), lcv_congr (a' := a') (b' := b') (fun k x y => ha k (by omega) y) (fun k x y => hb k (by omega) y)]
theorem mtS_congr {a b a' b' : Int → Int} {na nb : Int} (ha : ∀ k, 0 ≤ k → k < na → a k = a' k) (hb : ∀ k, 0 ≤ k → k < nb → b k = b' k) (hn : 0 ≤ nb) : ∀ n : Nat, (n : Int) ≤ na → mtS a b na nb n = mtS a' b' na nb n := by
  intro n
  induction n with
  | zero => intro _; simp only [mtS]; rw [lcv_congr (a' := a') (b' := b') ha hb]
  | succ n ih =>
    intro h
    have hi := ih (by omega)
    have hf := mtS_f a' b' (na := na) hn n
    simp only [mtS]
    rw [hi, mtN_congr (q := mtS a' b' na nb n) ha hb (by omega) (by omega) hf.1]
theorem mtP_congr {a b a' b' : Int → Int} {na nb i : Int} (ha : ∀ k, 0 ≤ k → k < na → a k = a' k) (hb : ∀ k, 0 ≤ k → k < nb → b k = b' k) (hn : 0 ≤ nb) (h0 : 0 ≤ i) (h1 : i < na) : mtP a b na nb i = mtP a' b' na nb i := by
  unfold mtP
  rw [mtS_congr ha hb hn _ (by omega), mtN_congr ha hb h0 h1 (mtS_f a' b' (na := na) hn _).1]
theorem pcsL_congr {p p' : Int → Int} {na nb : Int} : ∀ (n : Nat) (x i j : Int), (∀ k, x ≤ k → k < x + n → p k = p' k) → pcsL p na nb n x i j = pcsL p' na nb n x i j := by
  intro n
  induction n with
  | zero => intro x i j _; rfl
  | succ n ih =>
    intro x i j h
    simp only [pcsL]
    rw [h x (by omega) (by omega), ih (x + 1) i j (fun k a b => h k (by omega) (by omega)), ih (x + 1) (x + 1) _ (fun k a b => h k (by omega) (by omega))]
theorem pcsOf_congr {a b a' b' : Int → Int} {na nb : Int} (ha : ∀ k, 0 ≤ k → k < na → a k = a' k) (hb : ∀ k, 0 ≤ k → k < nb → b k = b' k) (hn : 0 ≤ nb) (h0 : 0 ≤ na) : pcsOf a b na nb = pcsOf a' b' na nb := by
  unfold pcsOf
  exact pcsL_congr _ _ _ _ (fun k x y => mtP_congr ha hb hn x (by omega))
theorem chgL_congr {a b a' b' : Int → Int} {na nb : Int} (ha : ∀ k, 0 ≤ k → k < na → a k = a' k) (hb : ∀ k, 0 ≤ k → k < nb → b k = b' k) {l : List (Int × Int × Int × Int)} (h : ∀ q ∈ l, pOk na nb q) : chgL a b l = chgL a' b' l := by
  unfold chgL
  apply List.map_congr_left
  intro q hq
  obtain ⟨h1, h2, h3, h4, h5, h6⟩ := h q hq
  rw [seg_congr (f := a) (g := a') (fun k x y => ha k (by omega) (by omega)), seg_congr (f := b) (g := b') (fun k x y => hb k (by omega) (by omega))]
theorem gapsL_congr {p q p' q' : Int → Int} {na nb nt : Int} : ∀ (n : Nat) (x b o t : Int), (∀ k, x ≤ k → k < x + n → p k = p' k ∧ q k = q' k) → gapsL p q na nb nt n x b o t = gapsL p' q' na nb nt n x b o t := by
  intro n
  induction n with
  | zero => intro x b o t _; rfl
  | succ n ih =>
    intro x b o t h
    have h1 := h x (by omega) (by omega)
    simp only [gapsL]
    rw [h1.1, h1.2, ih (x + 1) b o t (fun k a b => h k (by omega) (by omega)), ih (x + 1) (x + 1) _ _ (fun k a b => h k (by omega) (by omega))]
def gIn (na nb nt : Int) (g : Gp) : Prop := (0 ≤ g.1 ∧ 0 ≤ g.2.1 ∧ g.2.1 ≤ na) ∧ (0 ≤ g.2.2.1 ∧ g.2.2.2.1 ≤ nb) ∧ 0 ≤ g.2.2.2.2.1 ∧ g.2.2.2.2.2 ≤ nt
theorem gapsL_in {p q : Int → Int} {na nb nt : Int} (hp : ∀ k, p k = -9 ∨ (0 ≤ p k ∧ p k < nb)) (hq : ∀ k, q k = -9 ∨ (0 ≤ q k ∧ q k < nt)) : ∀ (n : Nat) (x b o t : Int), 0 ≤ x → x + n ≤ na → 0 ≤ b → 0 ≤ o → 0 ≤ t → ∀ g ∈ gapsL p q na nb nt n x b o t, gIn na nb nt g := by
  intro n
  induction n with
  | zero =>
    intro x b o t h0 h1 hb ho ht g hg
    simp only [gapsL, List.mem_singleton] at hg
    subst hg
    unfold gIn
    dsimp only
    omega
  | succ n ih =>
    intro x b o t h0 h1 hb ho ht g hg
    simp only [gapsL] at hg
    have h2 := hp x
    have h3 := hq x
    split at hg
    · exact ih (x + 1) b o t (by omega) (by omega) hb ho ht g hg
    · rcases List.mem_cons.mp hg with rfl | hg
      · unfold gIn
        dsimp only
        omega
      · exact ih (x + 1) (x + 1) _ _ (by omega) (by omega) (by omega) (by omega) (by omega) g hg
theorem foldl_congr_mem {α β : Type} {f g : α → β → α} : ∀ (l : List β) (s : α), (∀ s x, x ∈ l → f s x = g s x) → l.foldl f s = l.foldl g s := by
  intro l
  induction l with
  | nil => intro s _; rfl
  | cons x l ih =>
    intro s h
    simp only [List.foldl_cons]
    rw [h s x (by simp), ih _ (fun s y hy => h s y (by simp [hy]))]
theorem mtP_in (a b : Int → Int) {na nb : Int} (hb : 0 ≤ nb) (k : Int) : mtP a b na nb k = -9 ∨ (0 ≤ mtP a b na nb k ∧ mtP a b na nb k < nb) := by
  rcases mtP_r a b (na := na) k hb with h | ⟨h1, h2, -⟩
  · exact Or.inl h
  · have := (mtS_f a b (na := na) hb k.toNat).1
    exact Or.inr ⟨by omega, h2⟩
theorem mrg_congr {rs : List (List Int × List Int)} {a b t a' b' t' : Int → Int} {na nb nt : Int} (ha : ∀ k, 0 ≤ k → k < na → a k = a' k) (hb : ∀ k, 0 ≤ k → k < nb → b k = b' k) (ht : ∀ k, 0 ≤ k → k < nt → t k = t' k) (h0 : 0 ≤ na) (h1 : 0 ≤ nb) (h2 : 0 ≤ nt) : mrg rs a na b nb t nt = mrg rs a' na b' nb t' nt := by
  unfold mrg
  rw [gapsL_congr (p' := mtP a' b' na nb) (q' := mtP a' t' na nt) _ _ _ _ _ (fun k x y => ⟨mtP_congr ha hb h1 x (by omega), mtP_congr ha ht h2 x (by omega)⟩)]
  apply foldl_congr_mem
  intro s g hg
  obtain ⟨⟨g1, g2, g3⟩, ⟨g4, g5⟩, g6, g7⟩ := gapsL_in (na := na) (fun k => mtP_in a' b' h1 k) (fun k => mtP_in a' t' h2 k) _ _ _ _ _ (Int.le_refl _) (by omega) (Int.le_refl _) (Int.le_refl _) (Int.le_refl _) g hg
  have e : gapG rs a b t g = gapG rs a' b' t' g := by
    unfold gapG
    rw [seg_congr (f := a) (g := a') (fun k x y => ha k (by omega) (by omega)), seg_congr (f := b) (g := b') (fun k x y => hb k (by omega) (by omega)), seg_congr (f := t) (g := t') (fun k x y => ht k (by omega) (by omega))]
  unfold mgStep
  rw [e]
  by_cases hx : g.2.1 < na
  · rw [if_pos hx, if_pos hx, ha _ g2 hx]
  · rw [if_neg hx, if_neg hx]
/-- a list as a row -/
def lf (L : List Int) : Int → Int := fun i => L.getD i.toNat 0
theorem seg_lf (L : List Int) : seg (lf L) 0 L.length = L := by
  apply List.ext_getElem?
  intro k
  by_cases h : k < L.length
  · rw [seg_get (by omega), List.getElem?_eq_getElem h]
    simp only [lf]
    have e : ((0 : Int) + (k : Int)).toNat = k := by omega
    rw [e, List.getD_eq_getElem?_getD, List.getElem?_eq_getElem h]
    rfl
  · rw [List.getElem?_eq_none (by rw [seg_len]; omega), List.getElem?_eq_none (by omega)]
theorem lf_seg {f : Int → Int} {n k : Int} (h0 : 0 ≤ k) (h1 : k < n) : lf (seg f 0 n) k = f k := by
  unfold lf
  have := seg_at (f := f) (i := 0) (j := n) (k := k) h0 (by omega)
  rw [this, Int.zero_add]
def mrgL (rs : List (List Int × List Int)) (A B C : List Int) : List Int × Int × List Gp := mrg rs (lf A) A.length (lf B) B.length (lf C) C.length
theorem mrg_list (rs : List (List Int × List Int)) (a b t : Int → Int) {na nb nt : Int} (h0 : 0 ≤ na) (h1 : 0 ≤ nb) (h2 : 0 ≤ nt) : mrg rs a na b nb t nt = mrgL rs (seg a 0 na) (seg b 0 nb) (seg t 0 nt) := by
  unfold mrgL
  have e : ∀ {f : Int → Int} {n : Int}, 0 ≤ n → (((seg f 0 n).length : Nat) : Int) = n := fun h => by rw [seg_len]; omega
  rw [e h0, e h1, e h2]
  exact mrg_congr (fun k x y => (lf_seg x y).symm) (fun k x y => (lf_seg x y).symm) (fun k x y => (lf_seg x y).symm) h0 h1 h2
theorem gapsL_len {p q : Int → Int} {na nb nt : Int} : ∀ (n : Nat) (x b o t : Int), (gapsL p q na nb nt n x b o t).length ≤ n + 1 := by
  intro n
  induction n with
  | zero => intro x b o t; simp [gapsL]
  | succ n ih =>
    intro x b o t
    simp only [gapsL]
    split
    · have := ih (x + 1) b o t; omega
    · have := ih (x + 1) (x + 1) (p x + 1) (q x + 1)
      simp only [List.length_cons]; omega
theorem mgStep_c {rs : List (List Int × List Int)} {a b t : Int → Int} {na : Int} : ∀ (l : List Gp) (s : List Int × Int × List Gp), s.2.1 ≤ (l.foldl (mgStep rs a b t na) s).2.1 ∧ (l.foldl (mgStep rs a b t na) s).2.1 ≤ s.2.1 + l.length := by
  intro l
  induction l with
  | nil => intro s; simp
  | cons g l ih =>
    intro s
    have h1 := ih (mgStep rs a b t na s g)
    have h2 := gapV_c rs (seg a g.1 g.2.1) (seg b g.2.2.1 g.2.2.2.1) (seg t g.2.2.2.2.1 g.2.2.2.2.2)
    have h3 : (mgStep rs a b t na s g).2.1 = s.2.1 + (gapV rs (seg a g.1 g.2.1) (seg b g.2.2.1 g.2.2.2.1) (seg t g.2.2.2.2.1 g.2.2.2.2.2)).2.1 := rfl
    simp only [List.foldl_cons, List.length_cons]
    omega
theorem mrgL_c (rs : List (List Int × List Int)) (A B C : List Int) : 0 ≤ (mrgL rs A B C).2.1 ∧ (mrgL rs A B C).2.1 ≤ A.length + 1 := by
  unfold mrgL mrg
  have h1 := mgStep_c (rs := rs) (a := lf A) (b := lf B) (t := lf C) (na := (A.length : Int)) (gapsL (mtP (lf A) (lf B) A.length B.length) (mtP (lf A) (lf C) A.length C.length) A.length B.length C.length (A.length : Int).toNat 0 0 0 0) ([], 0, [])
  have h2 := gapsL_len (p := mtP (lf A) (lf B) A.length B.length) (q := mtP (lf A) (lf C) A.length C.length) (na := (A.length : Int)) (nb := (B.length : Int)) (nt := (C.length : Int)) (A.length : Int).toNat 0 0 0 0
  dsimp only at h1
  omega
def chgOf (A B : List Int) : List (List Int × List Int) := chgL (lf A) (lf B) (pcsOf (lf A) (lf B) A.length B.length)
/-- the row of a commit -/
def rowL (I : Nat → Int → Int) (o : Nat) (c : Int) : List Int := seg (rwI I o c) 0 (I (o + 6) c)
theorem chgC_list {I : Nat → Int → Int} {o : Nat} (h : ∀ j, 0 ≤ I (o + 6) j) (c : Int) : chgC I o c = if c = 0 then [] else chgOf (rowL I o (I (o + 2) c)) (rowL I o c) := by
  unfold chgC pcsC
  by_cases hc : c = 0
  · rw [if_pos hc, if_pos hc]; rfl
  · rw [if_neg hc, if_neg hc]
    unfold chgOf rowL
    have e : ∀ {f : Int → Int} {n : Int}, 0 ≤ n → (((seg f 0 n).length : Nat) : Int) = n := fun h => by rw [seg_len]; omega
    rw [e (h _), e (h _)]
    have h1 := pcsOf_congr (a := rwI I o (I (o + 2) c)) (b := rwI I o c) (fun k x y => (lf_seg x y).symm) (fun k x y => (lf_seg x y).symm) (h c) (h (I (o + 2) c))
    rw [← h1]
    exact chgL_congr (fun k x y => (lf_seg x y).symm) (fun k x y => (lf_seg x y).symm) (pcsOf_ok (h _) (h _)).1
theorem rowL_len {I : Nat → Int → Int} {o : Nat} (h : lnOk I o) (c : Int) : ((rowL I o c).length : Int) = I (o + 6) c := by
  have := h.2 c
  unfold rowL
  rw [seg_len]; omega
def swR (I : Nat → Int → Int) (o : Nat) (c : Int) : Int := if 0 ≤ c ∧ c < I o 2 then (if c = 0 ∨ I (o + 2) c = 0 then -3 else if (mrgL (rsL I o) (rowL I o (I (o + 2) c)) (rowL I o (I (o + 2) (I (o + 2) c))) (rowL I o c)).2.1 > 0 ∨ ((mrgL (rsL I o) (rowL I o (I (o + 2) c)) (rowL I o (I (o + 2) (I (o + 2) c))) (rowL I o c)).1.length : Int) > 16 then 0 else bI ((mrgL (rsL I o) (rowL I o (I (o + 2) (I (o + 2) c))) (mrgL (rsL I o) (rowL I o (I (o + 2) c)) (rowL I o (I (o + 2) (I (o + 2) c))) (rowL I o c)).1 (rowL I o (I (o + 2) c))).2.1 = 0 ∧ rowL I o c = (mrgL (rsL I o) (rowL I o (I (o + 2) (I (o + 2) c))) (mrgL (rsL I o) (rowL I o (I (o + 2) c)) (rowL I o (I (o + 2) (I (o + 2) c))) (rowL I o c)).1 (rowL I o (I (o + 2) c))).1)) else -1
/-- a row laid beside the commits -/
theorem laid_row {I J : Nat → Int → Int} {o : Nat} {c : Int} {L : List Int} (hs : ∀ j, J (o + 6) j = if j = c then (L.length : Int) else I (o + 6) j) (hl : ∀ j, J (o + 5) j = if 16 * c ≤ j ∧ j < 16 * c + L.length then L.getD (j - 16 * c).toNat 0 else I (o + 5) j) : rowL J o c = L := by
  unfold rowL
  rw [hs c, if_pos rfl, ← seg_lf L]
  rw [seg_len]
  have e : (((((L.length : Nat) : Int) - 0).toNat : Nat) : Int) = L.length := by omega
  rw [e]
  apply seg_congr
  intro k h0 h1
  simp only [rwI]
  rw [hl, if_pos (by omega)]
  simp only [lf]
  congr 1
  omega
theorem laid_other {I J : Nat → Int → Int} {o : Nat} {c d : Int} {L : List Int} (hL : (L.length : Int) ≤ 16) (hs : ∀ j, J (o + 6) j = if j = c then (L.length : Int) else I (o + 6) j) (hl : ∀ j, J (o + 5) j = if 16 * c ≤ j ∧ j < 16 * c + L.length then L.getD (j - 16 * c).toNat 0 else I (o + 5) j) (hn : lnOk I o) (hd : d ≠ c) : rowL J o d = rowL I o d := by
  unfold rowL
  rw [hs d, if_neg hd]
  have := hn.2 d
  apply seg_congr
  intro k h0 h1
  simp only [rwI]
  rw [hl, if_neg (by omega)]
theorem laid_ok {I J : Nat → Int → Int} {o : Nat} {c : Int} {L : List Int} (hL : (L.length : Int) ≤ 16) (hLn : isLn L) (hs : ∀ j, J (o + 6) j = if j = c then (L.length : Int) else I (o + 6) j) (hl : ∀ j, J (o + 5) j = if 16 * c ≤ j ∧ j < 16 * c + L.length then L.getD (j - 16 * c).toNat 0 else I (o + 5) j) (hn : lnOk I o) : lnOk J o := by
  refine ⟨fun j => ?_, fun j => ?_⟩
  · rw [hl]
    split
    · rw [List.getD_eq_getElem?_getD]
      cases hg : L[(j - 16 * c).toNat]? with
      | none => simp
      | some u => exact hLn u (List.mem_of_getElem? hg)
    · exact hn.1 j
  · rw [hs]
    split
    · omega
    · exact hn.2 j
theorem rowL_eq {I J : Nat → Int → Int} {o : Nat} (h5 : J (o + 5) = I (o + 5)) (h6 : J (o + 6) = I (o + 6)) (c : Int) : rowL J o c = rowL I o c := by
  unfold rowL; rw [rwI_eq h5, h6]

set_option maxHeartbeats 4000000 in
set_option maxRecDepth 100000 in
theorem m_swaps {G : ax_G} {T : Nat → Nat} {N : Nat → Int} {I : Nat → Int → Int} {R : Nat → Int → Option Nat} {z o : Nat} (M : axMo T N R o) {c : Int} (hm : miC I o) (hR : miR I o) (hc : ax_r c) : axEx G YX12_swaps 6 [vR o, vI c] T N I R z (fun r1 I1 => r1 = some (vI (swR I o c)) ∧ lvE I I1 o ∧ lnOk I1 o ∧ outE I I1 o) := by

  refine ax_enter (by decide) (Nat.le_of_ble_eq_true rfl) (ax_cat rfl) (fun f hC => ?_)
  show axX G f 0 0 _ 0 [vR o, vI c, vU, vU] [] T N I R z 0 0
  have hmm := hm.1
  have hl := hm.2.1
  have hp := hm.2.2.1
  refine x_aload_n (pc := 0) hC dX12_swaps_0 rfl ?_
  refine x_iload_n (pc := 1) hC dX12_swaps_1 rfl ?_
  refine x_mV (pc := 2) hC cv_X12_171 dX12_swaps_2 (m_isCommit M hc (by omega)) M.1 rfl (by decide) rfl rfl (Nat.le_of_ble_eq_true rfl) ?_
  refine x_ifB_ne (pc := 5) hC 10 dX12_swaps_5 (by decide) (fun b5 => ?_) (fun b5 => ?_)
  · refine x_iload_n (pc := 10) hC dX12_swaps_10 rfl ?_
    refine x_if_eq (pc := 11) hC 23 dX12_swaps_11 (by decide) (by omega) (fun b11 => ?_) (fun b11 => ?_)
    · refine x_bipush (pc := 23) hC dX12_swaps_23 (by decide) ?_
      refine x_iret (pc := 25) hC rfl dX12_swaps_25 ?_
      exact ⟨⟨by unfold swR; rw [if_pos b5, if_pos (by omega)], scr.rf.lvE, hl, scr.rf.outE⟩, rfl, rfl, rfl, rfl⟩
    · have hp1 := hp.2 c (by omega) b5.2
      refine x_aload_n (pc := 14) hC dX12_swaps_14 rfl ?_
      refine x_getO (pc := 15) hC gf_X12_13 dX12_swaps_15 M.1 (mo_parent M).1 ?_
      refine x_iload_n (pc := 18) hC dX12_swaps_18 rfl ?_
      refine x_iald (pc := 19) hC dX12_swaps_19 (mo_parent M).2.1 (by omega) (by rw [(mo_parent M).2.2]; omega) ?_
      refine x_if_ne (pc := 20) hC 26 dX12_swaps_20 (by decide) (by omega) (fun b20 => ?_) (fun b20 => ?_)
      · have hp1 := hp.2 c (by omega) b5.2
        have hp2 := hp.2 (I (o + 2) c) (by omega) (by omega)
        refine x_aload_n (pc := 26) hC dX12_swaps_26 rfl ?_
        refine x_getO (pc := 27) hC gf_X12_13 dX12_swaps_27 M.1 (mo_parent M).1 ?_
        refine x_iload_n (pc := 30) hC dX12_swaps_30 rfl ?_
        refine x_iald (pc := 31) hC dX12_swaps_31 (mo_parent M).2.1 (by omega) (by rw [(mo_parent M).2.2]; omega) ?_
        refine x_istore_n (pc := 32) hC dX12_swaps_32 (Nat.le_of_ble_eq_true rfl) ?_
        dsimp only [List.set]
        refine x_aload_n (pc := 33) hC dX12_swaps_33 rfl ?_
        refine x_getO (pc := 34) hC gf_X12_13 dX12_swaps_34 M.1 (mo_parent M).1 ?_
        refine x_iload_n (pc := 37) hC dX12_swaps_37 rfl ?_
        refine x_iald (pc := 38) hC dX12_swaps_38 (mo_parent M).2.1 (by omega) (by rw [(mo_parent M).2.2]; omega) ?_
        refine x_istore_n (pc := 39) hC dX12_swaps_39 (Nat.le_of_ble_eq_true rfl) ?_
        dsimp only [List.set]
        refine x_aload_n (pc := 40) hC dX12_swaps_40 rfl ?_
        refine x_iload_n (pc := 41) hC dX12_swaps_41 rfl ?_
        refine x_iload_n (pc := 42) hC dX12_swaps_42 rfl ?_
        refine x_iload_n (pc := 43) hC dX12_swaps_43 rfl ?_
        refine x_mVx (pc := 44) hC cv_X12_204 dX12_swaps_44 (m_merges M hl hR (by omega) (by omega) (by omega) rfl rfl rfl) M.1 rfl (by decide) rfl rfl (Nat.le_of_ble_eq_true rfl) ?_
        rintro v J ⟨rfl, hJ, ⟨hM1, hM2, hM3, -⟩, hM5, hM6, hM7, -⟩
        dsimp only [Option.toList, List.nil_append]
        rw [mrg_list _ _ _ _ (hl.2 _).1 (hl.2 _).1 (hl.2 _).1] at hM1 hM2 hM3 hM5 hM6 hM7
        have hG : swR I o c = (if (mrgL (rsL I o) (rowL I o (I (o + 2) c)) (rowL I o (I (o + 2) (I (o + 2) c))) (rowL I o c)).2.1 > 0 ∨ ((mrgL (rsL I o) (rowL I o (I (o + 2) c)) (rowL I o (I (o + 2) (I (o + 2) c))) (rowL I o c)).1.length : Int) > 16 then 0 else bI ((mrgL (rsL I o) (rowL I o (I (o + 2) (I (o + 2) c))) (mrgL (rsL I o) (rowL I o (I (o + 2) c)) (rowL I o (I (o + 2) (I (o + 2) c))) (rowL I o c)).1 (rowL I o (I (o + 2) c))).2.1 = 0 ∧ rowL I o c = (mrgL (rsL I o) (rowL I o (I (o + 2) (I (o + 2) c))) (mrgL (rsL I o) (rowL I o (I (o + 2) c)) (rowL I o (I (o + 2) (I (o + 2) c))) (rowL I o c)).1 (rowL I o (I (o + 2) c))).1)) := by
          unfold swR
          rw [if_pos b5, if_neg (by omega)]
        have hcf := mrgL_c (rsL I o) (rowL I o (I (o + 2) c)) (rowL I o (I (o + 2) (I (o + 2) c))) (rowL I o c)
        rw [rowL_len hl] at hcf
        have hcl := hl.2 (I (o + 2) c)
        obtain ⟨res, hres⟩ : ∃ q, q = (mrgL (rsL I o) (rowL I o (I (o + 2) c)) (rowL I o (I (o + 2) (I (o + 2) c))) (rowL I o c)) := ⟨_, rfl⟩
        have hM1l := hM1.1
        change rM J o (mrgL (rsL I o) (rowL I o (I (o + 2) c)) (rowL I o (I (o + 2) (I (o + 2) c))) (rowL I o c)).1 at hM1
        change J o 22 = (mrgL (rsL I o) (rowL I o (I (o + 2) c)) (rowL I o (I (o + 2) (I (o + 2) c))) (rowL I o c)).2.1 at hM2
        change J o 21 = (mrgL (rsL I o) (rowL I o (I (o + 2) c)) (rowL I o (I (o + 2) (I (o + 2) c))) (rowL I o c)).1.length at hM1l
        change (mrgL (rsL I o) (rowL I o (I (o + 2) c)) (rowL I o (I (o + 2) (I (o + 2) c))) (rowL I o c)).1.length ≤ 160 at hM5
        change isLn (mrgL (rsL I o) (rowL I o (I (o + 2) c)) (rowL I o (I (o + 2) (I (o + 2) c))) (rowL I o c)).1 at hM6
        rw [← hres] at hG hM1 hM1l hM2 hM5 hM6 hcf
        refine x_aload_n (pc := 47) hC dX12_swaps_47 rfl ?_
        refine x_getI (pc := 48) hC gf_X12_207 dX12_swaps_48 M.1 ?_
        refine x_if_gt (pc := 51) hC 63 dX12_swaps_51 (by decide) (by omega) (fun b51 => ?_) (fun b51 => ?_)
        · refine x_iconst (pc := 63) hC dX12_swaps_63 ?_
          refine x_iret (pc := 64) hC rfl dX12_swaps_64 ?_
          refine ⟨⟨?_, hJ.lvE, lnOk_eq (hJ.1 (o + 5) (by omega) (by omega)) (hJ.1 (o + 6) (by omega) (by omega)) hl, hJ.outE⟩, rfl, rfl, rfl, rfl⟩
          rw [hG, if_pos (by omega)]
        · refine x_aload_n (pc := 54) hC dX12_swaps_54 rfl ?_
          refine x_getI (pc := 55) hC gf_X12_210 dX12_swaps_55 M.1 ?_
          refine x_bipush (pc := 58) hC dX12_swaps_58 (by decide) ?_
          refine x_icmp_le (pc := 60) hC 65 dX12_swaps_60 (by decide) (by omega) (by omega) (fun b60 => ?_) (fun b60 => ?_)
          · refine x_aload_n (pc := 65) hC dX12_swaps_65 rfl ?_
            refine x_bipush (pc := 66) hC dX12_swaps_66 (by decide) ?_
            refine x_mVx (pc := 68) hC cv_X12_213 dX12_swaps_68 (m_laysResult M hM1 (by decide) (by omega)) M.1 rfl (by decide) rfl rfl (Nat.le_of_ble_eq_true rfl) ?_
            rintro v K ⟨rfl, hK, hKs, hKl⟩
            dsimp only [Option.toList, List.nil_append]
            have j5 : J (o + 5) = I (o + 5) := hJ.1 (o + 5) (by omega) (by omega)
            have j6 : J (o + 6) = I (o + 6) := hJ.1 (o + 6) (by omega) (by omega)
            have hlJ : lnOk J o := lnOk_eq j5 j6 hl
            have hlK : lnOk K o := laid_ok (by omega) hM6 hKs hKl hlJ
            have kk : ∀ q, (q < o + 5 ∨ q = o + 7 ∨ o + 20 ≤ q) → q ≠ o → K q = I q := fun q a a0 => by rw [hK q (by omega) (by omega)]; exact hJ.1 q a0 (by omega)
            have k30 : K o 30 = I o 30 := by rw [hK o (by omega) (by omega)]; exact hJ.2 30 (by unfold sfd; omega)
            have hRK : miR K o := miR_eq k30 (kk _ (by omega) (by omega)) (kk _ (by omega) (by omega)) (kk _ (by omega) (by omega)) (kk _ (by omega) (by omega)) hR
            have rsKe := rsL_eq k30 (kk (o + 20) (by omega) (by omega)) (kk (o + 21) (by omega) (by omega)) (kk (o + 22) (by omega) (by omega)) (kk (o + 23) (by omega) (by omega))
            have rK25 := laid_row hKs hKl
            have rKo : ∀ d, d ≠ 25 → rowL K o d = rowL I o d := fun d hd => (laid_other (by omega) hKs hKl hlJ hd).trans (rowL_eq j5 j6 d)
            refine x_aload_n (pc := 71) hC dX12_swaps_71 rfl ?_
            refine x_iload_n (pc := 72) hC dX12_swaps_72 rfl ?_
            refine x_bipush (pc := 73) hC dX12_swaps_73 (by decide) ?_
            refine x_iload_n (pc := 75) hC dX12_swaps_75 rfl ?_
            refine x_mVx (pc := 76) hC cv_X12_204 dX12_swaps_76 (m_merges M hlK hRK (by omega) (by decide) (by omega) rfl rfl rfl) M.1 rfl (by decide) rfl rfl (Nat.le_of_ble_eq_true rfl) ?_
            rintro v J2 ⟨rfl, hJ2, ⟨hN1, hN2, hN3, -⟩, hN5, hN6, hN7, -⟩
            dsimp only [Option.toList, List.nil_append]
            rw [mrg_list _ _ _ _ (hlK.2 _).1 (hlK.2 _).1 (hlK.2 _).1] at hN1 hN2 hN3 hN5 hN6 hN7
            have eM : (mrgL (rsL K o) (seg (rwI K o (I (o + 2) (I (o + 2) c))) 0 (K (o + 6) (I (o + 2) (I (o + 2) c)))) (seg (rwI K o 25) 0 (K (o + 6) 25)) (seg (rwI K o (I (o + 2) c)) 0 (K (o + 6) (I (o + 2) c)))) = (mrgL (rsL I o) (rowL I o (I (o + 2) (I (o + 2) c))) res.1 (rowL I o (I (o + 2) c))) := by
              rw [rsKe, ← rK25, ← rKo (I (o + 2) (I (o + 2) c)) (by omega), ← rKo (I (o + 2) c) (by omega)]
              rfl
            rw [eM] at hN1 hN2 hN3 hN5 hN6 hN7
            have hcf2 := mrgL_c (rsL I o) (rowL I o (I (o + 2) (I (o + 2) c))) res.1 (rowL I o (I (o + 2) c))
            rw [rowL_len hl] at hcf2
            have hcl2 := hl.2 (I (o + 2) (I (o + 2) c))
            obtain ⟨res2, hres2⟩ : ∃ q, q = (mrgL (rsL I o) (rowL I o (I (o + 2) (I (o + 2) c))) res.1 (rowL I o (I (o + 2) c))) := ⟨_, rfl⟩
            rw [← hres2] at hN1 hN2 hN5 hN6 hG hcf2
            have m5 : J2 (o + 5) = K (o + 5) := hJ2.1 (o + 5) (by omega) (by omega)
            have m6 : J2 (o + 6) = K (o + 6) := hJ2.1 (o + 6) (by omega) (by omega)
            have hl2 : lnOk J2 o := lnOk_eq m5 m6 hlK
            have rc : seg (rwI J2 o c) 0 (J2 (o + 6) c) = rowL I o c := by
              rw [← rKo c (by omega), ← rowL_eq m5 m6 c]; rfl
            have hsc : ∀ k, ¬ sfd k → J2 o k = I o k := fun k a => by rw [hJ2.2 k a, hK o (by omega) (by omega)]; exact hJ.2 k a
            have hL2 : lvE I J2 o := by
              refine ⟨fun q a => ?_, fun j a => ?_, fun j a => ?_, fun k a => hsc k (by unfold sfd; omega), fun _ => ⟨?_, hsc 46 (by unfold sfd; omega)⟩⟩
              · rw [hJ2.1 q (by omega) (by omega)]; exact kk q (by omega) (by omega)
              · rw [m5, hKl, if_neg (by omega), j5]
              · rw [m6, hKs, if_neg (by omega), j6]
              · rw [hJ2.1 _ (by omega) (by omega)]; exact kk _ (by omega) (by omega)
            have hO2 : outE I J2 o := fun q a => by rw [hJ2.1 q (by omega) (by omega)]; exact kk q (by omega) (by omega)
            refine x_aload_n (pc := 79) hC dX12_swaps_79 rfl ?_
            refine x_getI (pc := 80) hC gf_X12_207 dX12_swaps_80 M.1 ?_
            refine x_if_ne (pc := 83) hC 98 dX12_swaps_83 (by decide) (by omega) (fun b83 => ?_) (fun b83 => ?_)
            · refine x_iconst (pc := 98) hC dX12_swaps_98 ?_
              first
              | (refine x_iret (pc := 99) hC rfl dX12_swaps_99 ?_
                 refine ⟨⟨?_, hL2, hl2, hO2⟩, rfl, rfl, rfl, rfl⟩
                 rw [hG, if_neg (by omega), bI_t ⟨by omega, b91⟩]; done)
              | (refine x_iret (pc := 99) hC rfl dX12_swaps_99 ?_
                 refine ⟨⟨?_, hL2, hl2, hO2⟩, rfl, rfl, rfl, rfl⟩
                 rw [hG, if_neg (by omega), bI_f (fun h => b91 h.2)]; done)
              | (refine x_iret (pc := 99) hC rfl dX12_swaps_99 ?_
                 refine ⟨⟨?_, hL2, hl2, hO2⟩, rfl, rfl, rfl, rfl⟩
                 rw [hG, if_neg (by omega), bI_f (fun h => by omega)]; done)
            · refine x_aload_n (pc := 86) hC dX12_swaps_86 rfl ?_
              refine x_iload_n (pc := 87) hC dX12_swaps_87 rfl ?_
              refine x_mV (pc := 88) hC cv_X12_216 dX12_swaps_88 (m_isResult M hN1 hl2 hN6 (by omega) (by omega)) M.1 rfl (by decide) rfl rfl (Nat.le_of_ble_eq_true rfl) ?_
              rw [rc]
              refine x_ifB_eq (pc := 91) hC 98 dX12_swaps_91 (by decide) (fun b91 => ?_) (fun b91 => ?_)
              · refine x_iconst (pc := 98) hC dX12_swaps_98 ?_
                first
                | (refine x_iret (pc := 99) hC rfl dX12_swaps_99 ?_
                   refine ⟨⟨?_, hL2, hl2, hO2⟩, rfl, rfl, rfl, rfl⟩
                   rw [hG, if_neg (by omega), bI_t ⟨by omega, b91⟩]; done)
                | (refine x_iret (pc := 99) hC rfl dX12_swaps_99 ?_
                   refine ⟨⟨?_, hL2, hl2, hO2⟩, rfl, rfl, rfl, rfl⟩
                   rw [hG, if_neg (by omega), bI_f (fun h => b91 h.2)]; done)
                | (refine x_iret (pc := 99) hC rfl dX12_swaps_99 ?_
                   refine ⟨⟨?_, hL2, hl2, hO2⟩, rfl, rfl, rfl, rfl⟩
                   rw [hG, if_neg (by omega), bI_f (fun h => by omega)]; done)
              · refine x_iconst (pc := 94) hC dX12_swaps_94 ?_
                refine x_goto (pc := 95) hC 99 dX12_swaps_95 (by decide) ?_
                first
                | (refine x_iret (pc := 99) hC rfl dX12_swaps_99 ?_
                   refine ⟨⟨?_, hL2, hl2, hO2⟩, rfl, rfl, rfl, rfl⟩
                   rw [hG, if_neg (by omega), bI_t ⟨by omega, b91⟩]; done)
                | (refine x_iret (pc := 99) hC rfl dX12_swaps_99 ?_
                   refine ⟨⟨?_, hL2, hl2, hO2⟩, rfl, rfl, rfl, rfl⟩
                   rw [hG, if_neg (by omega), bI_f (fun h => b91 h.2)]; done)
                | (refine x_iret (pc := 99) hC rfl dX12_swaps_99 ?_
                   refine ⟨⟨?_, hL2, hl2, hO2⟩, rfl, rfl, rfl, rfl⟩
                   rw [hG, if_neg (by omega), bI_f (fun h => by omega)]; done)
          · refine x_iconst (pc := 63) hC dX12_swaps_63 ?_
            refine x_iret (pc := 64) hC rfl dX12_swaps_64 ?_
            refine ⟨⟨?_, hJ.lvE, lnOk_eq (hJ.1 (o + 5) (by omega) (by omega)) (hJ.1 (o + 6) (by omega) (by omega)) hl, hJ.outE⟩, rfl, rfl, rfl, rfl⟩
            rw [hG, if_pos (by omega)]
      · refine x_bipush (pc := 23) hC dX12_swaps_23 (by decide) ?_
        refine x_iret (pc := 25) hC rfl dX12_swaps_25 ?_
        exact ⟨⟨by unfold swR; rw [if_pos b5, if_pos (by omega)], scr.rf.lvE, hl, scr.rf.outE⟩, rfl, rfl, rfl, rfl⟩
  · refine x_iconst (pc := 8) hC dX12_swaps_8 ?_
    refine x_iret (pc := 9) hC rfl dX12_swaps_9 ?_
    exact ⟨⟨by unfold swR; rw [if_neg b5], scr.rf.lvE, hl, scr.rf.outE⟩, rfl, rfl, rfl, rfl⟩

