/-! THE REFERENCE: foretell -/
abbrev Fr : Type := List Int × Int × Int × Int × Int × Int
/-- what a replay would do: the row on top, made, left; then the stop, the open ones, how -/
def fore (σ : Nat → Int → Int) (o : Nat) (b c : Int) : List Int → List Int → Int → Int → Fr
  | [], L, ma, lv => (L, ma, lv, -9, 0, 0)
  | x :: t, L, ma, lv => if thP σ o x b c then fore σ o b c t L ma (lv + 1) else if stp (mrgL (rsL σ o) (rowL σ o (σ (o + 2) x)) L (rowL σ o x)) ≠ 0 then (L, ma, lv, x, ((mrgL (rsL σ o) (rowL σ o (σ (o + 2) x)) L (rowL σ o x)).2.2.length : Int), stp (mrgL (rsL σ o) (rowL σ o (σ (o + 2) x)) L (rowL σ o x))) else if σ (o + 1) x = 0 ∧ L = (mrgL (rsL σ o) (rowL σ o (σ (o + 2) x)) L (rowL σ o x)).1 then fore σ o b c t L ma (lv + 1) else fore σ o b c t (mrgL (rsL σ o) (rowL σ o (σ (o + 2) x)) L (rowL σ o x)).1 (ma + (if σ (o + 1) x = 2 ∧ 0 < ma then 0 else 1)) lv
theorem fore_eq {I J : Nat → Int → Int} {o : Nat} (h2 : J o 2 = I o 2) (h30 : J o 30 = I o 30) (h : ∀ q, o < q → q < o + 8 ∨ (o + 20 ≤ q ∧ q < o + 24) → J q = I q) (b c : Int) : ∀ (t L : List Int) (mk lv : Int), fore J o b c t L mk lv = fore I o b c t L mk lv := by
  have e1 : rsL J o = rsL I o := rsL_eq h30 (h _ (by omega) (by omega)) (h _ (by omega) (by omega)) (h _ (by omega) (by omega)) (h _ (by omega) (by omega))
  have e2 : ∀ d, rowL J o d = rowL I o d := fun d => rowL_eq (h _ (by omega) (by omega)) (h _ (by omega) (by omega)) d
  have e3 : J (o + 2) = I (o + 2) := h _ (by omega) (by omega)
  have e4 : J (o + 1) = I (o + 1) := h _ (by omega) (by omega)
  have e5 : ∀ x, thP J o x b c ↔ thP I o x b c := fun x => by
    have c1 : ∀ y, chgC J o y = chgC I o y := fun y => chgC_eq e3 (h _ (by omega) (by omega)) (h _ (by omega) (by omega)) y
    unfold thP thL
    rw [h2, e3, e4, h (o + 7) (by omega) (by omega)]
    simp only [c1]
  intro t
  induction t with
  | nil => intro L mk lv; rfl
  | cons x t ih =>
    intro L mk lv
    simp only [fore, e1, e2, e3, e4, ih, e5]
theorem fore_st {σ : Nat → Int → Int} {o : Nat} {b c : Int} : ∀ (t L : List Int) (ma lv : Int), (fore σ o b c t L ma lv).2.2.2.1 = -9 ∨ (fore σ o b c t L ma lv).2.2.2.1 ∈ t := by
  intro t
  induction t with
  | nil => intro L ma lv; left; rfl
  | cons x t ih =>
    intro L ma lv
    simp only [fore]
    split
    · exact (ih _ _ _).imp id (List.mem_cons_of_mem _)
    · split
      · right; exact List.mem_cons_self
      · split
        · exact (ih _ _ _).imp id (List.mem_cons_of_mem _)
        · exact (ih _ _ _).imp id (List.mem_cons_of_mem _)
/-- the commits have stayed; the row beside them may have changed -/
def fR (I J : Nat → Int → Int) (o : Nat) : Prop := (∀ q, q ≠ o → (q < o + 5 ∨ q = o + 7 ∨ o + 19 < q) → J q = I q) ∧ (∀ j, j < 384 → J (o + 5) j = I (o + 5) j) ∧ (∀ j, j < 24 → J (o + 6) j = I (o + 6) j) ∧ lnOk J o ∧ ∀ k, ¬ sfd k → ¬ (50 ≤ k ∧ k ≤ 54) → J o k = I o k
theorem fR.rf {I : Nat → Int → Int} {o : Nat} (h : lnOk I o) : fR I I o := ⟨fun _ _ _ => rfl, fun _ _ => rfl, fun _ _ => rfl, h, fun _ _ _ => rfl⟩
theorem fR.s {I J K : Nat → Int → Int} {o : Nat} (h : fR I J o) (h2 : scr J K o) : fR I K o :=
  ⟨fun q a b => (h2.1 q a (by omega)).trans (h.1 q a b), fun j a => by rw [h2.1 (o + 5) (by omega) (by omega)]; exact h.2.1 j a, fun j a => by rw [h2.1 (o + 6) (by omega) (by omega)]; exact h.2.2.1 j a, lnOk_eq (h2.1 _ (by omega) (by omega)) (h2.1 _ (by omega) (by omega)) h.2.2.2.1, fun k a b => (h2.2 k a).trans (h.2.2.2.2 k a b)⟩
theorem fR.u {I J : Nat → Int → Int} {o : Nat} {k v : Int} (h : fR I J o) (hk : 50 ≤ k ∧ k ≤ 54) : fR I (ax_u J o k v) o :=
  ⟨fun q a b => by rw [axu_row a]; exact h.1 q a b, fun j a => by rw [axu_a (by omega)]; exact h.2.1 j a, fun j a => by rw [axu_a (by omega)]; exact h.2.2.1 j a, lnOk_eq (axu_row (by omega)) (axu_row (by omega)) h.2.2.2.1, fun j a b => by rw [axu_j (by omega)]; exact h.2.2.2.2 j a b⟩
theorem fR.lay {I J : Nat → Int → Int} {o : Nat} {L : List Int} (h : fR I J o) (hL : (L.length : Int) ≤ 16) (hn : isLn L) : fR I (layI J o 24 L) o :=
  ⟨fun q a b => by rw [lay_row (by omega) (by omega)]; exact h.1 q a b, fun j a => by rw [lay_l, if_neg (by omega)]; exact h.2.1 j a, fun j a => by rw [lay_s, if_neg (by omega)]; exact h.2.2.1 j a, laid_ok hL hn lay_s lay_l h.2.2.2.1, fun j a b => by rw [lay_row (by omega) (by omega)]; exact h.2.2.2.2 j a b⟩
theorem fR.row {I J : Nat → Int → Int} {o : Nat} (h : fR I J o) {d : Int} (hd : d < 24) : rowL J o d = rowL I o d := by
  have hl := h.2.2.2.1.2 d
  unfold rowL
  rw [h.2.2.1 d hd] at *
  apply seg_congr
  intro k h0 h1
  exact h.2.1 _ (by omega)
theorem fR.rs {I J : Nat → Int → Int} {o : Nat} (h : fR I J o) : rsL J o = rsL I o := rsL_eq (h.2.2.2.2 30 (by unfold sfd; omega) (by omega)) (h.1 _ (by omega) (by omega)) (h.1 _ (by omega) (by omega)) (h.1 _ (by omega) (by omega)) (h.1 _ (by omega) (by omega))
theorem fR.mR {I J : Nat → Int → Int} {o : Nat} (h : fR I J o) (hm : miR I o) : miR J o := miR_eq (h.2.2.2.2 30 (by unfold sfd; omega) (by omega)) (h.1 _ (by omega) (by omega)) (h.1 _ (by omega) (by omega)) (h.1 _ (by omega) (by omega)) (h.1 _ (by omega) (by omega)) hm
theorem fR.mC {I J : Nat → Int → Int} {o : Nat} (h : fR I J o) (hm : miC I o) : miC J o := by
  obtain ⟨m1, m2, m3⟩ := hm
  refine ⟨by rw [h.2.2.2.2 2 (by unfold sfd; omega) (by omega)]; exact m1, h.2.2.2.1, ?_⟩
  rw [h.2.2.2.2 2 (by unfold sfd; omega) (by omega), h.1 (o + 2) (by omega) (by omega), h.1 (o + 7) (by omega) (by omega), h.1 (o + 1) (by omega) (by omega)]
  exact m3
theorem fR.th {I J : Nat → Int → Int} {o : Nat} (h : fR I J o) (hm : miC I o) {x b c : Int} (hx : 0 ≤ x ∧ x < I o 2) : thP J o x b c ↔ thP I o x b c := by
  have z2 : J (o + 2) = I (o + 2) := h.1 _ (by omega) (by omega)
  have hmm := hm.1
  have cc : ∀ y, 0 ≤ y → y < I o 2 → chgC J o y = chgC I o y := fun y h0 h1 => by
    rw [chgC_list (fun j => (h.2.2.2.1.2 j).1), chgC_list (fun j => (hm.2.1.2 j).1), z2]
    by_cases hy : y = 0
    · rw [if_pos hy, if_pos hy]
    · have := hm.2.2.1.2 y (by omega) h1
      rw [if_neg hy, if_neg hy, h.row (by omega), h.row (by omega)]
  have eT : thL J o b c = thL I o b c := by
    unfold thL
    rw [h.2.2.2.2 2 (by unfold sfd; omega) (by omega), z2, h.1 (o + 7) (by omega) (by omega)]
  unfold thP
  rw [eT, h.1 (o + 1) (by omega) (by omega), cc x hx.1 hx.2]
  constructor
  · rintro ⟨a, y, hy, e⟩
    refine ⟨a, y, hy, ?_⟩
    simp only [thL, List.mem_filter] at hy
    obtain ⟨k, k0, k1, rfl⟩ := seg_mem.mp hy.1
    rw [e]
    exact cc _ k0 k1
  · rintro ⟨a, y, hy, e⟩
    refine ⟨a, y, hy, ?_⟩
    simp only [thL, List.mem_filter] at hy
    obtain ⟨k, k0, k1, rfl⟩ := seg_mem.mp hy.1
    rw [e]
    exact (cc _ k0 k1).symm
def ftV (r : Fr) (w : Int) : Int := if w = 0 then (if r.2.2.2.1 = -9 then 0 else r.2.2.2.2.2) else if w = 1 then r.2.1 else if w = 2 then r.2.2.1 else if w = 3 then r.2.2.2.1 else if w = 4 then r.2.2.2.2.1 else if w = 5 then (r.1.length : Int) else atO r.1 (w - 10)
def ftR (I : Nat → Int → Int) (o : Nat) (b c w : Int) : Int :=
  if (0 ≤ b ∧ b < 4) ∧ 0 ≤ c ∧ c < I o 2 then
    if (0 ≤ w ∧ w ≤ 5) ∨ (10 ≤ w ∧ w ≤ 25) then
      if I o 40 = 0 then
        if I o 2 + ((tdL I o b c).length : Int) ≤ 24 then ftV (fore I o b c (tdL I o b c) (rowL I o c) 0 0) w
        else -4
      else -3
    else -2
  else -1

set_option maxHeartbeats 4000000 in
set_option maxRecDepth 100000 in
theorem m_foretells {G : ax_G} {T : Nat → Nat} {N : Nat → Int} {I : Nat → Int → Int} {R : Nat → Int → Option Nat} {z o : Nat} (M : axMo T N R o) {b c : Int} {td : List Int} {res : Fr} (hm : miC I o) (hR : miR I o) (hb : 0 ≤ b ∧ b < 4) (hc : 0 ≤ c ∧ c < (I o 2)) (h46 : (I o 46) = td.length) (htl : td.length ≤ 24) (htd : ∀ i : Int, 0 ≤ i → i < td.length → I (o + 28) i = lf td i) (hti : ∀ x ∈ td, 0 < x ∧ x < (I o 2)) (hres : res = fore I o b c td (rowL I o c) 0 0) : axEx G YX12_foretells 7 [vR o, vI b, vI c] T N I R z (fun r1 I1 => r1 = none ∧ fR I I1 o ∧ rowL I1 o 24 = res.1 ∧ (I1 o 50) = res.2.1 ∧ (I1 o 51) = res.2.2.1 ∧ (I1 o 52) = res.2.2.2.1 ∧ (I1 o 53) = res.2.2.2.2.1 ∧ (res.2.2.2.1 ≠ -9 → (I1 o 54) = res.2.2.2.2.2)) := by

  refine ax_enter (by decide) (Nat.le_of_ble_eq_true rfl) (ax_cat rfl) (fun f hC => ?_)
  show axX G f 0 0 _ 0 [vR o, vI b, vI c, vU, vU, vU] [] T N I R z 0 0
  have hmm := hm.1
  have loop : ∀ (t : List Int) (i mk lv : Int) (L : List Int) (J : Nat → Int → Int) (c4 c5 : ax_V), fR I J o → 0 ≤ i → td.drop i.toNat = t → i ≤ td.length → rowL J o 24 = L → (J o 50) = mk → (J o 51) = lv → (J o 52) = -9 → (J o 53) = 0 → (0 ≤ mk ∧ mk ≤ i) → res = fore I o b c t L mk lv → axX G f 0 0 (fun r1 T1 N1 I1 R1 z1 => (r1 = none ∧ fR I I1 o ∧ rowL I1 o 24 = res.1 ∧ (I1 o 50) = res.2.1 ∧ (I1 o 51) = res.2.2.1 ∧ (I1 o 52) = res.2.2.2.1 ∧ (I1 o 53) = res.2.2.2.2.1 ∧ (res.2.2.2.1 ≠ -9 → (I1 o 54) = res.2.2.2.2.2)) ∧ T1 = T ∧ N1 = N ∧ R1 = R ∧ z1 = z) 75 [vR o, vI b, vI c, vI i, c4, c5] [] T N J R z 0 0 := by
    intro t
    induction t with
    | nil =>
      intro i mk lv L J c4 c5 hJ h0 hd h1 hL hmk hlv hst hop hmr hgo
      have hi : i = td.length := by
        have := List.drop_eq_nil_iff.mp hd
        omega
      have j46 : J o 46 = td.length := (hJ.2.2.2.2 46 (by unfold sfd; omega) (by omega)).trans h46
      refine x_iload_n (pc := 75) hC dX12_foretells_75 rfl ?_
      refine x_aload_n (pc := 76) hC dX12_foretells_76 rfl ?_
      refine x_getI (pc := 77) hC gf_X12_262 dX12_foretells_77 M.1 ?_
      rw [j46]
      refine x_icmp_ge (pc := 80) hC 238 dX12_foretells_80 (by decide) (by omega) (by omega) (fun b80 => ?_) (fun b80 => ?_)
      · refine x_vret (pc := 238) hC rfl dX12_foretells_238 ?_
        refine ⟨⟨rfl, hJ, ?_, ?_, ?_, ?_, ?_, ?_⟩, rfl, rfl, rfl, rfl⟩
        · rw [hgo]; exact hL
        · rw [hgo]; exact hmk
        · rw [hgo]; exact hlv
        · rw [hgo]; exact hst
        · rw [hgo]; exact hop
        · rw [hgo]; intro h; exact absurd rfl h
      · omega
    | cons x t ih =>
      intro i mk lv L J c4 c5 hJ h0 hd h1 hL hmk hlv hst hop hmr hgo
      have hil : i < td.length := by
        rcases Int.lt_or_le i td.length with h | h
        · exact h
        · rw [List.drop_eq_nil_of_le (by omega)] at hd; simp at hd
      have hxi : td[i.toNat]? = some x := by
        have := List.getElem?_drop (xs := td) (i := i.toNat) (j := 0)
        rw [hd] at this
        simpa using this.symm
      have hxm : x ∈ td := List.mem_of_getElem? hxi
      have hx := hti x hxm
      have j28 : J (o + 28) i = x := by
        rw [hJ.1 (o + 28) (by omega) (by omega), htd i h0 hil]
        unfold lf
        rw [List.getD_eq_getElem?_getD, hxi]
        rfl
      have hd2 : td.drop (i + 1).toNat = t := by
        have e : (i + 1).toNat = i.toNat + 1 := by omega
        rw [e, ← List.drop_drop, hd]
        rfl
      have j46 : J o 46 = td.length := (hJ.2.2.2.2 46 (by unfold sfd; omega) (by omega)).trans h46
      have hpx := hm.2.2.1.2 x hx.1 hx.2
      have hkx := hm.2.2.2.2.2 x
      have hmJ := hJ.mC hm
      have jm : J o 2 = I o 2 := hJ.2.2.2.2 2 (by unfold sfd; omega) (by omega)
      simp only [fore] at hgo
      refine x_iload_n (pc := 75) hC dX12_foretells_75 rfl ?_
      refine x_aload_n (pc := 76) hC dX12_foretells_76 rfl ?_
      refine x_getI (pc := 77) hC gf_X12_262 dX12_foretells_77 M.1 ?_
      rw [j46]
      refine x_icmp_ge (pc := 80) hC 238 dX12_foretells_80 (by decide) (by omega) (by omega) (fun b80 => ?_) (fun b80 => ?_)
      · refine x_vret (pc := 238) hC rfl dX12_foretells_238 ?_
        exfalso; omega
      · refine x_aload_n (pc := 83) hC dX12_foretells_83 rfl ?_
        refine x_getI (pc := 84) hC gf_X12_313 dX12_foretells_84 M.1 ?_
        refine x_bipush (pc := 87) hC dX12_foretells_87 (by decide) ?_
        rw [hst]
        refine x_icmp_ne (pc := 89) hC 238 dX12_foretells_89 (by decide) (by decide) (by decide) (fun h => absurd rfl h) (fun _ => ?_)
        refine x_aload_n (pc := 92) hC dX12_foretells_92 rfl ?_
        refine x_getO (pc := 93) hC gf_X12_91 dX12_foretells_93 M.1 (mo_todo M).1 ?_
        refine x_iload_n (pc := 96) hC dX12_foretells_96 rfl ?_
        refine x_iald (pc := 97) hC dX12_foretells_97 (mo_todo M).2.1 (by omega) (by rw [(mo_todo M).2.2]; omega) ?_
        rw [j28]
        refine x_istore (pc := 98) hC dX12_foretells_98 (Nat.le_of_ble_eq_true rfl) ?_
        dsimp only [List.set]
        refine x_aload_n (pc := 100) hC dX12_foretells_100 rfl ?_
        refine x_iload (pc := 101) hC dX12_foretells_101 rfl ?_
        refine x_iload_n (pc := 103) hC dX12_foretells_103 rfl ?_
        refine x_iload_n (pc := 104) hC dX12_foretells_104 rfl ?_
        refine x_mVx (pc := 105) hC cv_X12_280 dX12_foretells_105 (m_isThere M hmJ (by rw [jm]; omega) hb (by rw [jm]; exact hc)) M.1 rfl (by decide) rfl rfl (Nat.le_of_ble_eq_true rfl) ?_
        rintro v J2 ⟨rfl, hJ2⟩
        dsimp only [Option.toList]
        rw [bI_c (hJ.th hm (b := b) (c := c) ⟨Int.le_of_lt hx.1, hx.2⟩)]
        show axX _ _ _ _ _ _ _ (vI _ :: []) _ _ _ _ _ _ _
        have hK := hJ.s hJ2
        have k24 : rowL J2 o 24 = L := (hJ2.rowLe 24).trans hL
        have k50 : J2 o 50 = mk := (hJ2.2 50 (by unfold sfd; omega)).trans hmk
        have k51 : J2 o 51 = lv := (hJ2.2 51 (by unfold sfd; omega)).trans hlv
        have k52 : J2 o 52 = -9 := (hJ2.2 52 (by unfold sfd; omega)).trans hst
        have k53 : J2 o 53 = 0 := (hJ2.2 53 (by unfold sfd; omega)).trans hop
        have kp : J2 (o + 2) = I (o + 2) := hK.1 _ (by omega) (by omega)
        have hlK := hK.2.2.2.1
        have hRK := hK.mR hR
        refine x_ifB_eq (pc := 108) hC 124 dX12_foretells_108 (by decide) (fun b108 => ?_) (fun b108 => ?_)
        · rw [if_neg b108] at hgo
          refine x_aload_n (pc := 124) hC dX12_foretells_124 rfl ?_
          refine x_iload (pc := 125) hC dX12_foretells_125 rfl ?_
          refine x_bipush (pc := 127) hC dX12_foretells_127 (by decide) ?_
          refine x_mVx (pc := 129) hC cv_X12_283 dX12_foretells_129 (m_against M hlK hRK (by omega) (by decide) (by rw [kp]; omega)) M.1 rfl (by decide) rfl rfl (Nat.le_of_ble_eq_true rfl) ?_
          rintro v J3 ⟨rfl, hJ3, hM, hM5, hM6, hM7, hM8⟩
          dsimp only [Option.toList]
          have eM : mrgL (rsL J2 o) (seg (rwI J2 o (I (o + 2) x)) 0 (J2 (o + 6) (I (o + 2) x))) (seg (rwI J2 o 24) 0 (J2 (o + 6) 24)) (seg (rwI J2 o x) 0 (J2 (o + 6) x)) = mrgL (rsL I o) (rowL I o (I (o + 2) x)) L (rowL I o x) := by
            rw [hK.rs, ← k24, ← hK.row (d := I (o + 2) x) (by omega), ← hK.row (d := x) (by omega)]
            rfl
          rw [kp, mrg_list _ _ _ _ (hlK.2 _).1 (hlK.2 _).1 (hlK.2 _).1, eM] at hM hM5 hM6 hM7 hM8 ⊢
          obtain ⟨mm, hmm9⟩ : ∃ q, q = mrgL (rsL I o) (rowL I o (I (o + 2) x)) L (rowL I o x) := ⟨_, rfl⟩
          rw [← hmm9] at hM hM5 hM6 hM7 hM8 hgo ⊢
          show axX _ _ _ _ _ _ _ (vI (stp mm) :: _) _ _ _ _ _ _ _
          have hsr := stp_r mm
          have hK3 := hK.s hJ3
          have l24 : rowL J3 o 24 = L := (hJ3.rowLe 24).trans k24
          have l50 : J3 o 50 = mk := (hJ3.2 50 (by unfold sfd; omega)).trans k50
          have l51 : J3 o 51 = lv := (hJ3.2 51 (by unfold sfd; omega)).trans k51
          have l52 : J3 o 52 = -9 := (hJ3.2 52 (by unfold sfd; omega)).trans k52
          have l53 : J3 o 53 = 0 := (hJ3.2 53 (by unfold sfd; omega)).trans k53
          have lk : J3 (o + 1) = I (o + 1) := hK3.1 _ (by omega) (by omega)
          have l46 : J3 o 46 = td.length := (hK3.2.2.2.2 46 (by unfold sfd; omega) (by omega)).trans h46
          have lop := hM.2.2.1
          refine x_istore (pc := 132) hC dX12_foretells_132 (Nat.le_of_ble_eq_true rfl) ?_
          dsimp only [List.set]
          refine x_iload (pc := 134) hC dX12_foretells_134 rfl ?_
          refine x_if_eq (pc := 136) hC 162 dX12_foretells_136 (by decide) (by omega) (fun b136 => ?_) (fun b136 => ?_)
          · have hst0 : stp mm = 0 := by assumption
            rw [if_neg (fun h => h hst0)] at hgo
            have h16 : (mm.1.length : Int) ≤ 16 := by
              unfold stp at hst0
              split at hst0
              · omega
              · split at hst0
                · omega
                · omega
            refine x_aload_n (pc := 162) hC dX12_foretells_162 rfl ?_
            refine x_getO (pc := 163) hC gf_X12_7 dX12_foretells_163 M.1 (mo_kind M).1 ?_
            refine x_iload (pc := 166) hC dX12_foretells_166 rfl ?_
            refine x_iald (pc := 168) hC dX12_foretells_168 (mo_kind M).2.1 (by omega) (by rw [(mo_kind M).2.2]; omega) ?_
            rw [lk]
            refine x_if_ne (pc := 169) hC 194 dX12_foretells_169 (by decide) (by omega) (fun b169 => ?_) (fun b169 => ?_)
            · rw [if_neg (fun h => by first | exact absurd h.1 (by assumption) | exact absurd h.2 (by assumption))] at hgo
              refine x_aload_n (pc := 194) hC dX12_foretells_194 rfl ?_
              refine x_dup (pc := 195) hC dX12_foretells_195 rfl ?_
              refine x_getI (pc := 196) hC gf_X12_307 dX12_foretells_196 M.1 ?_
              refine x_aload_n (pc := 199) hC dX12_foretells_199 rfl ?_
              refine x_getO (pc := 200) hC gf_X12_7 dX12_foretells_200 M.1 (mo_kind M).1 ?_
              refine x_iload (pc := 203) hC dX12_foretells_203 rfl ?_
              refine x_iald (pc := 205) hC dX12_foretells_205 (mo_kind M).2.1 (by omega) (by rw [(mo_kind M).2.2]; omega) ?_
              refine x_iconst (pc := 206) hC dX12_foretells_206 ?_
              rw [lk]
              refine x_icmp_ne (pc := 207) hC 221 dX12_foretells_207 (by decide) (by omega) (by omega) (fun b207 => ?_) (fun b207 => ?_)
              · refine x_iconst (pc := 221) hC dX12_foretells_221 ?_
                refine x_iadd (pc := 222) hC dX12_foretells_222 ?_
                refine x_putI (pc := 223) hC pf_X12_307 dX12_foretells_223 M.1 (by decide) ?_
                refine x_aload_n (pc := 226) hC dX12_foretells_226 rfl ?_
                refine x_bipush (pc := 227) hC dX12_foretells_227 (by decide) ?_
                refine x_mV (pc := 229) hC cv_X12_213 dX12_foretells_229 (m_lays M (L := mm.1) ⟨by rw [axu_j (by decide)]; exact hM.1.1, by rw [axu_row (by omega)]; exact hM.1.2⟩ (by decide) h16) M.1 rfl (by decide) rfl rfl (Nat.le_of_ble_eq_true rfl) ?_
                refine x_iinc (pc := 232) hC dX12_foretells_232 rfl ?_
                dsimp only [List.set]
                refine x_goto (pc := 235) hC 75 dX12_foretells_235 (by decide) ?_
                first
                | (exfalso; omega)
                | (try rw [l50]
                   first
                   | rw [if_pos (by omega)] at hgo
                   | rw [if_neg (by omega)] at hgo
                   refine ih (i + 1) _ lv mm.1 _ _ _ ((hK3.u (by omega)).lay h16 hM6) (by omega) hd2 (by omega) (laid_row lay_s lay_l) (by rw [lay_row (by omega) (by omega), axu_s]) (by rw [lay_row (by omega) (by omega), axu_j (by decide)]; exact l51) (by rw [lay_row (by omega) (by omega), axu_j (by decide)]; exact l52) (by rw [lay_row (by omega) (by omega), axu_j (by decide)]; exact l53) (by omega) hgo)
              · refine x_aload_n (pc := 210) hC dX12_foretells_210 rfl ?_
                refine x_getI (pc := 211) hC gf_X12_307 dX12_foretells_211 M.1 ?_
                rw [l50]
                refine x_if_le (pc := 214) hC 221 dX12_foretells_214 (by decide) (by omega) (fun b214 => ?_) (fun b214 => ?_)
                · refine x_iconst (pc := 221) hC dX12_foretells_221 ?_
                  refine x_iadd (pc := 222) hC dX12_foretells_222 ?_
                  refine x_putI (pc := 223) hC pf_X12_307 dX12_foretells_223 M.1 (by decide) ?_
                  refine x_aload_n (pc := 226) hC dX12_foretells_226 rfl ?_
                  refine x_bipush (pc := 227) hC dX12_foretells_227 (by decide) ?_
                  refine x_mV (pc := 229) hC cv_X12_213 dX12_foretells_229 (m_lays M (L := mm.1) ⟨by rw [axu_j (by decide)]; exact hM.1.1, by rw [axu_row (by omega)]; exact hM.1.2⟩ (by decide) h16) M.1 rfl (by decide) rfl rfl (Nat.le_of_ble_eq_true rfl) ?_
                  refine x_iinc (pc := 232) hC dX12_foretells_232 rfl ?_
                  dsimp only [List.set]
                  refine x_goto (pc := 235) hC 75 dX12_foretells_235 (by decide) ?_
                  first
                  | (exfalso; omega)
                  | (try rw [l50]
                     first
                     | rw [if_pos (by omega)] at hgo
                     | rw [if_neg (by omega)] at hgo
                     refine ih (i + 1) _ lv mm.1 _ _ _ ((hK3.u (by omega)).lay h16 hM6) (by omega) hd2 (by omega) (laid_row lay_s lay_l) (by rw [lay_row (by omega) (by omega), axu_s]) (by rw [lay_row (by omega) (by omega), axu_j (by decide)]; exact l51) (by rw [lay_row (by omega) (by omega), axu_j (by decide)]; exact l52) (by rw [lay_row (by omega) (by omega), axu_j (by decide)]; exact l53) (by omega) hgo)
                · refine x_iconst (pc := 217) hC dX12_foretells_217 ?_
                  refine x_goto (pc := 218) hC 222 dX12_foretells_218 (by decide) ?_
                  refine x_iadd (pc := 222) hC dX12_foretells_222 ?_
                  refine x_putI (pc := 223) hC pf_X12_307 dX12_foretells_223 M.1 (by decide) ?_
                  refine x_aload_n (pc := 226) hC dX12_foretells_226 rfl ?_
                  refine x_bipush (pc := 227) hC dX12_foretells_227 (by decide) ?_
                  refine x_mV (pc := 229) hC cv_X12_213 dX12_foretells_229 (m_lays M (L := mm.1) ⟨by rw [axu_j (by decide)]; exact hM.1.1, by rw [axu_row (by omega)]; exact hM.1.2⟩ (by decide) h16) M.1 rfl (by decide) rfl rfl (Nat.le_of_ble_eq_true rfl) ?_
                  refine x_iinc (pc := 232) hC dX12_foretells_232 rfl ?_
                  dsimp only [List.set]
                  refine x_goto (pc := 235) hC 75 dX12_foretells_235 (by decide) ?_
                  first
                  | (exfalso; omega)
                  | (try rw [l50]
                     first
                     | rw [if_pos (by omega)] at hgo
                     | rw [if_neg (by omega)] at hgo
                     refine ih (i + 1) _ lv mm.1 _ _ _ ((hK3.u (by omega)).lay h16 hM6) (by omega) hd2 (by omega) (laid_row lay_s lay_l) (by rw [lay_row (by omega) (by omega), axu_s]) (by rw [lay_row (by omega) (by omega), axu_j (by decide)]; exact l51) (by rw [lay_row (by omega) (by omega), axu_j (by decide)]; exact l52) (by rw [lay_row (by omega) (by omega), axu_j (by decide)]; exact l53) (by omega) hgo)
            · refine x_aload_n (pc := 172) hC dX12_foretells_172 rfl ?_
              refine x_bipush (pc := 173) hC dX12_foretells_173 (by decide) ?_
              refine x_mV (pc := 175) hC cv_X12_216 dX12_foretells_175 (m_isResult M hM.1 hK3.2.2.2.1 hM6 (by decide) (by omega)) M.1 rfl (by decide) rfl rfl (Nat.le_of_ble_eq_true rfl) ?_
              rw [show seg (rwI J3 o 24) 0 (J3 (o + 6) 24) = L from l24]
              refine x_ifB_eq (pc := 178) hC 194 dX12_foretells_178 (by decide) (fun b178 => ?_) (fun b178 => ?_)
              · rw [if_neg (fun h => by first | exact absurd h.1 (by assumption) | exact absurd h.2 (by assumption))] at hgo
                refine x_aload_n (pc := 194) hC dX12_foretells_194 rfl ?_
                refine x_dup (pc := 195) hC dX12_foretells_195 rfl ?_
                refine x_getI (pc := 196) hC gf_X12_307 dX12_foretells_196 M.1 ?_
                refine x_aload_n (pc := 199) hC dX12_foretells_199 rfl ?_
                refine x_getO (pc := 200) hC gf_X12_7 dX12_foretells_200 M.1 (mo_kind M).1 ?_
                refine x_iload (pc := 203) hC dX12_foretells_203 rfl ?_
                refine x_iald (pc := 205) hC dX12_foretells_205 (mo_kind M).2.1 (by omega) (by rw [(mo_kind M).2.2]; omega) ?_
                refine x_iconst (pc := 206) hC dX12_foretells_206 ?_
                rw [lk]
                refine x_icmp_ne (pc := 207) hC 221 dX12_foretells_207 (by decide) (by omega) (by omega) (fun b207 => ?_) (fun b207 => ?_)
                · refine x_iconst (pc := 221) hC dX12_foretells_221 ?_
                  refine x_iadd (pc := 222) hC dX12_foretells_222 ?_
                  refine x_putI (pc := 223) hC pf_X12_307 dX12_foretells_223 M.1 (by decide) ?_
                  refine x_aload_n (pc := 226) hC dX12_foretells_226 rfl ?_
                  refine x_bipush (pc := 227) hC dX12_foretells_227 (by decide) ?_
                  refine x_mV (pc := 229) hC cv_X12_213 dX12_foretells_229 (m_lays M (L := mm.1) ⟨by rw [axu_j (by decide)]; exact hM.1.1, by rw [axu_row (by omega)]; exact hM.1.2⟩ (by decide) h16) M.1 rfl (by decide) rfl rfl (Nat.le_of_ble_eq_true rfl) ?_
                  refine x_iinc (pc := 232) hC dX12_foretells_232 rfl ?_
                  dsimp only [List.set]
                  refine x_goto (pc := 235) hC 75 dX12_foretells_235 (by decide) ?_
                  first
                  | (exfalso; omega)
                  | (try rw [l50]
                     first
                     | rw [if_pos (by omega)] at hgo
                     | rw [if_neg (by omega)] at hgo
                     refine ih (i + 1) _ lv mm.1 _ _ _ ((hK3.u (by omega)).lay h16 hM6) (by omega) hd2 (by omega) (laid_row lay_s lay_l) (by rw [lay_row (by omega) (by omega), axu_s]) (by rw [lay_row (by omega) (by omega), axu_j (by decide)]; exact l51) (by rw [lay_row (by omega) (by omega), axu_j (by decide)]; exact l52) (by rw [lay_row (by omega) (by omega), axu_j (by decide)]; exact l53) (by omega) hgo)
                · refine x_aload_n (pc := 210) hC dX12_foretells_210 rfl ?_
                  refine x_getI (pc := 211) hC gf_X12_307 dX12_foretells_211 M.1 ?_
                  rw [l50]
                  refine x_if_le (pc := 214) hC 221 dX12_foretells_214 (by decide) (by omega) (fun b214 => ?_) (fun b214 => ?_)
                  · refine x_iconst (pc := 221) hC dX12_foretells_221 ?_
                    refine x_iadd (pc := 222) hC dX12_foretells_222 ?_
                    refine x_putI (pc := 223) hC pf_X12_307 dX12_foretells_223 M.1 (by decide) ?_
                    refine x_aload_n (pc := 226) hC dX12_foretells_226 rfl ?_
                    refine x_bipush (pc := 227) hC dX12_foretells_227 (by decide) ?_
                    refine x_mV (pc := 229) hC cv_X12_213 dX12_foretells_229 (m_lays M (L := mm.1) ⟨by rw [axu_j (by decide)]; exact hM.1.1, by rw [axu_row (by omega)]; exact hM.1.2⟩ (by decide) h16) M.1 rfl (by decide) rfl rfl (Nat.le_of_ble_eq_true rfl) ?_
                    refine x_iinc (pc := 232) hC dX12_foretells_232 rfl ?_
                    dsimp only [List.set]
                    refine x_goto (pc := 235) hC 75 dX12_foretells_235 (by decide) ?_
                    first
                    | (exfalso; omega)
                    | (try rw [l50]
                       first
                       | rw [if_pos (by omega)] at hgo
                       | rw [if_neg (by omega)] at hgo
                       refine ih (i + 1) _ lv mm.1 _ _ _ ((hK3.u (by omega)).lay h16 hM6) (by omega) hd2 (by omega) (laid_row lay_s lay_l) (by rw [lay_row (by omega) (by omega), axu_s]) (by rw [lay_row (by omega) (by omega), axu_j (by decide)]; exact l51) (by rw [lay_row (by omega) (by omega), axu_j (by decide)]; exact l52) (by rw [lay_row (by omega) (by omega), axu_j (by decide)]; exact l53) (by omega) hgo)
                  · refine x_iconst (pc := 217) hC dX12_foretells_217 ?_
                    refine x_goto (pc := 218) hC 222 dX12_foretells_218 (by decide) ?_
                    refine x_iadd (pc := 222) hC dX12_foretells_222 ?_
                    refine x_putI (pc := 223) hC pf_X12_307 dX12_foretells_223 M.1 (by decide) ?_
                    refine x_aload_n (pc := 226) hC dX12_foretells_226 rfl ?_
                    refine x_bipush (pc := 227) hC dX12_foretells_227 (by decide) ?_
                    refine x_mV (pc := 229) hC cv_X12_213 dX12_foretells_229 (m_lays M (L := mm.1) ⟨by rw [axu_j (by decide)]; exact hM.1.1, by rw [axu_row (by omega)]; exact hM.1.2⟩ (by decide) h16) M.1 rfl (by decide) rfl rfl (Nat.le_of_ble_eq_true rfl) ?_
                    refine x_iinc (pc := 232) hC dX12_foretells_232 rfl ?_
                    dsimp only [List.set]
                    refine x_goto (pc := 235) hC 75 dX12_foretells_235 (by decide) ?_
                    first
                    | (exfalso; omega)
                    | (try rw [l50]
                       first
                       | rw [if_pos (by omega)] at hgo
                       | rw [if_neg (by omega)] at hgo
                       refine ih (i + 1) _ lv mm.1 _ _ _ ((hK3.u (by omega)).lay h16 hM6) (by omega) hd2 (by omega) (laid_row lay_s lay_l) (by rw [lay_row (by omega) (by omega), axu_s]) (by rw [lay_row (by omega) (by omega), axu_j (by decide)]; exact l51) (by rw [lay_row (by omega) (by omega), axu_j (by decide)]; exact l52) (by rw [lay_row (by omega) (by omega), axu_j (by decide)]; exact l53) (by omega) hgo)
              · refine x_aload_n (pc := 181) hC dX12_foretells_181 rfl ?_
                refine x_dup (pc := 182) hC dX12_foretells_182 rfl ?_
                refine x_getI (pc := 183) hC gf_X12_310 dX12_foretells_183 M.1 ?_
                refine x_iconst (pc := 186) hC dX12_foretells_186 ?_
                refine x_iadd (pc := 187) hC dX12_foretells_187 ?_
                refine x_putI (pc := 188) hC pf_X12_310 dX12_foretells_188 M.1 (by decide) ?_
                refine x_goto (pc := 191) hC 232 dX12_foretells_191 (by decide) ?_
                refine x_iinc (pc := 232) hC dX12_foretells_232 rfl ?_
                dsimp only [List.set]
                refine x_goto (pc := 235) hC 75 dX12_foretells_235 (by decide) ?_
                rw [l51]
                rw [if_pos ⟨by assumption, by assumption⟩] at hgo
                exact ih (i + 1) mk (lv + 1) L _ _ _ (hK3.u (by omega)) (by omega) hd2 (by omega) (by rw [rowL_eq (axu_row (by omega)) (axu_row (by omega))]; exact l24) (by rw [axu_j (by decide)]; exact l50) axu_s (by rw [axu_j (by decide)]; exact l52) (by rw [axu_j (by decide)]; exact l53) (by omega) hgo
          · refine x_aload_n (pc := 139) hC dX12_foretells_139 rfl ?_
            refine x_iload (pc := 140) hC dX12_foretells_140 rfl ?_
            refine x_putI (pc := 142) hC pf_X12_313 dX12_foretells_142 M.1 (by decide) ?_
            refine x_aload_n (pc := 145) hC dX12_foretells_145 rfl ?_
            refine x_aload_n (pc := 146) hC dX12_foretells_146 rfl ?_
            refine x_getI (pc := 147) hC gf_X12_236 dX12_foretells_147 M.1 ?_
            refine x_putI (pc := 150) hC pf_X12_316 dX12_foretells_150 M.1 (by decide) ?_
            refine x_aload_n (pc := 153) hC dX12_foretells_153 rfl ?_
            refine x_iload (pc := 154) hC dX12_foretells_154 rfl ?_
            refine x_putI (pc := 156) hC pf_X12_319 dX12_foretells_156 M.1 (by decide) ?_
            rw [if_pos b136] at hgo
            rw [axu_j (show (23 : Int) ≠ 52 by decide), lop]
            refine x_goto (pc := 159) hC 232 dX12_foretells_159 (by decide) ?_
            refine x_iinc (pc := 232) hC dX12_foretells_232 rfl ?_
            dsimp only [List.set]
            refine x_goto (pc := 235) hC 75 dX12_foretells_235 (by decide) ?_
            refine x_iload_n (pc := 75) hC dX12_foretells_75 rfl ?_
            refine x_aload_n (pc := 76) hC dX12_foretells_76 rfl ?_
            refine x_getI (pc := 77) hC gf_X12_262 dX12_foretells_77 M.1 ?_
            rw [axu_j (by decide), axu_j (by decide), axu_j (by decide), l46]
            refine x_icmp_ge (pc := 80) hC 238 dX12_foretells_80 (by decide) (by omega) (by omega) (fun b80 => ?_) (fun b80 => ?_)
            · refine x_vret (pc := 238) hC rfl dX12_foretells_238 ?_
              refine ⟨⟨rfl, ((hK3.u (by omega)).u (by omega)).u (by omega), ?_, ?_, ?_, ?_, ?_, ?_⟩, rfl, rfl, rfl, rfl⟩
              · rw [hgo, rowL_eq (axu_row (by omega)) (axu_row (by omega)), rowL_eq (axu_row (by omega)) (axu_row (by omega)), rowL_eq (axu_row (by omega)) (axu_row (by omega))]; exact l24
              · rw [hgo, axu_j (by decide), axu_j (by decide), axu_j (by decide)]; exact l50
              · rw [hgo, axu_j (by decide), axu_j (by decide), axu_j (by decide)]; exact l51
              · rw [hgo, axu_j (by decide), axu_j (by decide), axu_s]
              · rw [hgo, axu_j (by decide), axu_s]
              · rw [hgo]; intro _; rw [axu_s]
            · refine x_aload_n (pc := 83) hC dX12_foretells_83 rfl ?_
              refine x_getI (pc := 84) hC gf_X12_313 dX12_foretells_84 M.1 ?_
              refine x_bipush (pc := 87) hC dX12_foretells_87 (by decide) ?_
              rw [axu_j (by decide), axu_j (by decide), axu_s]
              refine x_icmp_ne (pc := 89) hC 238 dX12_foretells_89 (by decide) (by omega) (by decide) (fun _ => ?_) (fun h => by omega)
              refine x_vret (pc := 238) hC rfl dX12_foretells_238 ?_
              refine ⟨⟨rfl, ((hK3.u (by omega)).u (by omega)).u (by omega), ?_, ?_, ?_, ?_, ?_, ?_⟩, rfl, rfl, rfl, rfl⟩
              · rw [hgo, rowL_eq (axu_row (by omega)) (axu_row (by omega)), rowL_eq (axu_row (by omega)) (axu_row (by omega)), rowL_eq (axu_row (by omega)) (axu_row (by omega))]; exact l24
              · rw [hgo, axu_j (by decide), axu_j (by decide), axu_j (by decide)]; exact l50
              · rw [hgo, axu_j (by decide), axu_j (by decide), axu_j (by decide)]; exact l51
              · rw [hgo, axu_j (by decide), axu_j (by decide), axu_s]
              · rw [hgo, axu_j (by decide), axu_s]
              · rw [hgo]; intro _; rw [axu_s]
        · refine x_aload_n (pc := 111) hC dX12_foretells_111 rfl ?_
          refine x_dup (pc := 112) hC dX12_foretells_112 rfl ?_
          refine x_getI (pc := 113) hC gf_X12_310 dX12_foretells_113 M.1 ?_
          refine x_iconst (pc := 116) hC dX12_foretells_116 ?_
          refine x_iadd (pc := 117) hC dX12_foretells_117 ?_
          refine x_putI (pc := 118) hC pf_X12_310 dX12_foretells_118 M.1 (by decide) ?_
          refine x_goto (pc := 121) hC 232 dX12_foretells_121 (by decide) ?_
          refine x_iinc (pc := 232) hC dX12_foretells_232 rfl ?_
          dsimp only [List.set]
          refine x_goto (pc := 235) hC 75 dX12_foretells_235 (by decide) ?_
          rw [k51]
          rw [if_pos (by assumption)] at hgo
          exact ih (i + 1) mk (lv + 1) L _ _ _ (hK.u (by omega)) (by omega) hd2 (by omega) (by rw [rowL_eq (axu_row (by omega)) (axu_row (by omega))]; exact k24) (by rw [axu_j (by decide)]; exact k50) axu_s (by rw [axu_j (by decide)]; exact k52) (by rw [axu_j (by decide)]; exact k53) (by omega) hgo
  have copy : ∀ (n : Nat) (y : Int) (J : Nat → Int → Int), (I (o + 6) c - y).toNat ≤ n → 0 ≤ y → y ≤ I (o + 6) c → J = ax_f (ax_u (ax_u (ax_u (ax_u (ax_u I o 50 0) o 51 0) o 52 (-9)) o 53 0) (o + 6) 24 (I (o + 6) c)) (o + 5) 384 y (fun j => I (o + 5) (16 * c + (j - 384))) → axX G f 0 0 (fun r1 T1 N1 I1 R1 z1 => (r1 = none ∧ fR I I1 o ∧ rowL I1 o 24 = res.1 ∧ (I1 o 50) = res.2.1 ∧ (I1 o 51) = res.2.2.1 ∧ (I1 o 52) = res.2.2.2.1 ∧ (I1 o 53) = res.2.2.2.2.1 ∧ (res.2.2.2.1 ≠ -9 → (I1 o 54) = res.2.2.2.2.2)) ∧ T1 = T ∧ N1 = N ∧ R1 = R ∧ z1 = z) 36 [vR o, vI b, vI c, vI y, vU, vU] [] T N J R z 0 0 := by
    intro n
    have hsz := hm.2.1.2 c
    induction n with
    | zero =>
      intro y J hn h0 h1 hJ
      have hy : y = I (o + 6) c := by omega
      have js : J (o + 6) c = I (o + 6) c := by rw [hJ, axf_a (by omega), axu_j (by omega), axu_a (by omega), axu_a (by omega), axu_a (by omega), axu_a (by omega)]
      refine x_iload_n (pc := 36) hC dX12_foretells_36 rfl ?_
      refine x_aload_n (pc := 37) hC dX12_foretells_37 rfl ?_
      refine x_getO (pc := 38) hC gf_X12_25 dX12_foretells_38 M.1 (mo_size M).1 ?_
      refine x_iload_n (pc := 41) hC dX12_foretells_41 rfl ?_
      refine x_iald (pc := 42) hC dX12_foretells_42 (mo_size M).2.1 (by omega) (by rw [(mo_size M).2.2]; omega) ?_
      rw [js]
      refine x_icmp_ge (pc := 43) hC 73 dX12_foretells_43 (by decide) (by omega) (by omega) (fun b43 => ?_) (fun b43 => ?_)
      · refine x_iconst (pc := 73) hC dX12_foretells_73 ?_
        refine x_istore_n (pc := 74) hC dX12_foretells_74 (Nat.le_of_ble_eq_true rfl) ?_
        dsimp only [List.set]
        have hy : y = I (o + 6) c := by omega
        have hlen : ((rowL I o c).length : Int) = I (o + 6) c := rowL_len hm.2.1 c
        have hlay : J = layI (ax_u (ax_u (ax_u (ax_u I o 50 0) o 51 0) o 52 (-9)) o 53 0) o 24 (rowL I o c) := by
          rw [hJ, hy]
          unfold layI
          rw [hlen]
          refine axf_g (fun j a1 a2 => ?_)
          unfold rowL
          rw [lf_seg (by omega) (by omega)]
          rfl
        have hF : fR I J o := by
          rw [hlay]
          exact (((((fR.rf hm.2.1).u (by omega)).u (by omega)).u (by omega)).u (by omega)).lay (by omega) (seg_isLn (fun k => hm.2.1.1 _) _ _)
        have jo : ∀ k, J o k = (ax_u (ax_u (ax_u (ax_u I o 50 0) o 51 0) o 52 (-9)) o 53 0) o k := fun k => by rw [hlay, lay_row (by omega) (by omega)]
        exact loop td 0 0 0 (rowL I o c) J _ _ hF (Int.le_refl _) rfl (by omega) (by rw [hlay]; exact laid_row lay_s lay_l) (by rw [jo, axu_j (by decide), axu_j (by decide), axu_j (by decide), axu_s]) (by rw [jo, axu_j (by decide), axu_j (by decide), axu_s]) (by rw [jo, axu_j (by decide), axu_s]) (by rw [jo, axu_s]) (by omega) hres
      · omega
    | succ n ih =>
      intro y J hn h0 h1 hJ
      have js : J (o + 6) c = I (o + 6) c := by rw [hJ, axf_a (by omega), axu_j (by omega), axu_a (by omega), axu_a (by omega), axu_a (by omega), axu_a (by omega)]
      have jl : y < I (o + 6) c → J (o + 5) (16 * c + y) = I (o + 5) (16 * c + y) := fun _ => by rw [hJ, axf_out (by omega), axu_a (by omega), axu_a (by omega), axu_a (by omega), axu_a (by omega), axu_a (by omega)]
      refine x_iload_n (pc := 36) hC dX12_foretells_36 rfl ?_
      refine x_aload_n (pc := 37) hC dX12_foretells_37 rfl ?_
      refine x_getO (pc := 38) hC gf_X12_25 dX12_foretells_38 M.1 (mo_size M).1 ?_
      refine x_iload_n (pc := 41) hC dX12_foretells_41 rfl ?_
      refine x_iald (pc := 42) hC dX12_foretells_42 (mo_size M).2.1 (by omega) (by rw [(mo_size M).2.2]; omega) ?_
      rw [js]
      refine x_icmp_ge (pc := 43) hC 73 dX12_foretells_43 (by decide) (by omega) (by omega) (fun b43 => ?_) (fun b43 => ?_)
      · refine x_iconst (pc := 73) hC dX12_foretells_73 ?_
        refine x_istore_n (pc := 74) hC dX12_foretells_74 (Nat.le_of_ble_eq_true rfl) ?_
        dsimp only [List.set]
        have hy : y = I (o + 6) c := by omega
        have hlen : ((rowL I o c).length : Int) = I (o + 6) c := rowL_len hm.2.1 c
        have hlay : J = layI (ax_u (ax_u (ax_u (ax_u I o 50 0) o 51 0) o 52 (-9)) o 53 0) o 24 (rowL I o c) := by
          rw [hJ, hy]
          unfold layI
          rw [hlen]
          refine axf_g (fun j a1 a2 => ?_)
          unfold rowL
          rw [lf_seg (by omega) (by omega)]
          rfl
        have hF : fR I J o := by
          rw [hlay]
          exact (((((fR.rf hm.2.1).u (by omega)).u (by omega)).u (by omega)).u (by omega)).lay (by omega) (seg_isLn (fun k => hm.2.1.1 _) _ _)
        have jo : ∀ k, J o k = (ax_u (ax_u (ax_u (ax_u I o 50 0) o 51 0) o 52 (-9)) o 53 0) o k := fun k => by rw [hlay, lay_row (by omega) (by omega)]
        exact loop td 0 0 0 (rowL I o c) J _ _ hF (Int.le_refl _) rfl (by omega) (by rw [hlay]; exact laid_row lay_s lay_l) (by rw [jo, axu_j (by decide), axu_j (by decide), axu_j (by decide), axu_s]) (by rw [jo, axu_j (by decide), axu_j (by decide), axu_s]) (by rw [jo, axu_j (by decide), axu_s]) (by rw [jo, axu_s]) (by omega) hres
      · refine x_aload_n (pc := 46) hC dX12_foretells_46 rfl ?_
        refine x_getO (pc := 47) hC gf_X12_22 dX12_foretells_47 M.1 (mo_line M).1 ?_
        refine x_sipush (pc := 50) hC dX12_foretells_50 (by decide) ?_
        refine x_iload_n (pc := 53) hC dX12_foretells_53 rfl ?_
        refine x_iadd (pc := 54) hC dX12_foretells_54 ?_
        refine x_aload_n (pc := 55) hC dX12_foretells_55 rfl ?_
        refine x_getO (pc := 56) hC gf_X12_22 dX12_foretells_56 M.1 (mo_line M).1 ?_
        refine x_bipush (pc := 59) hC dX12_foretells_59 (by decide) ?_
        refine x_iload_n (pc := 61) hC dX12_foretells_61 rfl ?_
        refine x_imul (pc := 62) hC dX12_foretells_62 ?_
        refine x_iload_n (pc := 63) hC dX12_foretells_63 rfl ?_
        refine x_iadd (pc := 64) hC dX12_foretells_64 ?_
        refine x_iald (pc := 65) hC dX12_foretells_65 (mo_line M).2.1 (by omega) (by rw [(mo_line M).2.2]; omega) ?_
        rw [jl (by omega)]
        refine x_iast (pc := 66) hC dX12_foretells_66 (mo_line M).2.1 (by omega) (by rw [(mo_line M).2.2]; omega) ?_
        refine x_iinc (pc := 67) hC dX12_foretells_67 rfl ?_
        dsimp only [List.set]
        refine x_goto (pc := 70) hC 36 dX12_foretells_70 (by decide) ?_
        refine ih (y + 1) _ (by omega) (by omega) (by omega) ?_
        rw [hJ, axf_step h0 rfl]
        congr 1
        omega
  have hsz := hm.2.1.2 c
  refine x_aload_n (pc := 0) hC dX12_foretells_0 rfl ?_
  refine x_iconst (pc := 1) hC dX12_foretells_1 ?_
  refine x_putI (pc := 2) hC pf_X12_307 dX12_foretells_2 M.1 (by decide) ?_
  refine x_aload_n (pc := 5) hC dX12_foretells_5 rfl ?_
  refine x_iconst (pc := 6) hC dX12_foretells_6 ?_
  refine x_putI (pc := 7) hC pf_X12_310 dX12_foretells_7 M.1 (by decide) ?_
  refine x_aload_n (pc := 10) hC dX12_foretells_10 rfl ?_
  refine x_bipush (pc := 11) hC dX12_foretells_11 (by decide) ?_
  refine x_putI (pc := 13) hC pf_X12_313 dX12_foretells_13 M.1 (by decide) ?_
  refine x_aload_n (pc := 16) hC dX12_foretells_16 rfl ?_
  refine x_iconst (pc := 17) hC dX12_foretells_17 ?_
  refine x_putI (pc := 18) hC pf_X12_316 dX12_foretells_18 M.1 (by decide) ?_
  refine x_aload_n (pc := 21) hC dX12_foretells_21 rfl ?_
  refine x_getO (pc := 22) hC gf_X12_25 dX12_foretells_22 M.1 (mo_size M).1 ?_
  refine x_bipush (pc := 25) hC dX12_foretells_25 (by decide) ?_
  refine x_aload_n (pc := 27) hC dX12_foretells_27 rfl ?_
  refine x_getO (pc := 28) hC gf_X12_25 dX12_foretells_28 M.1 (mo_size M).1 ?_
  refine x_iload_n (pc := 31) hC dX12_foretells_31 rfl ?_
  refine x_iald (pc := 32) hC dX12_foretells_32 (mo_size M).2.1 (by omega) (by rw [(mo_size M).2.2]; omega) ?_
  refine x_iast (pc := 33) hC dX12_foretells_33 (mo_size M).2.1 (by omega) (by rw [(mo_size M).2.2]; omega) ?_
  refine x_iconst (pc := 34) hC dX12_foretells_34 ?_
  refine x_istore_n (pc := 35) hC dX12_foretells_35 (Nat.le_of_ble_eq_true rfl) ?_
  dsimp only [List.set]
  exact copy _ 0 _ (Nat.le_refl _) (by omega) hsz.1 (by rw [axf_0, axu_a (by omega), axu_a (by omega), axu_a (by omega), axu_a (by omega)])

set_option maxHeartbeats 4000000 in
set_option maxRecDepth 100000 in
theorem m_foretell {G : ax_G} {T : Nat → Nat} {N : Nat → Int} {I : Nat → Int → Int} {R : Nat → Int → Option Nat} {z o : Nat} (M : axMo T N R o) {b c w : Int} (hm : miC I o) (hR : miR I o) (hs : 0 ≤ (I o 40) ∧ (I o 40) ≤ 2) (hbr : ax_r b) (hcr : ax_r c) (hw : ax_r w) : axEx G YX12_foretell 8 [vR o, vI b, vI c, vI w] T N I R z (fun r1 I1 => r1 = some (vI (ftR I o b c w)) ∧ lvE I I1 o ∧ lnOk I1 o ∧ outE I I1 o) := by

  refine ax_enter (by decide) (Nat.le_of_ble_eq_true rfl) (ax_cat rfl) (fun f hC => ?_)
  show axX G f 0 0 _ 0 [vR o, vI b, vI c, vI w] [] T N I R z 0 0
  have hmm := hm.1
  have p2 : plI I o b c o 2 = I o 2 := pl_o (by decide)
  have hl := td_len (I := I) (o := o) (b := b) (c := c) (by omega)
  have pr : ∀ q, o < q → q < o + 28 → plI I o b c q = I q := fun q a1 a2 => pl_row (by omega) (by omega)
  have hmP : miC (plI I o b c) o := miC_eq p2 (pr _ (by omega) (by omega)) (pr _ (by omega) (by omega)) (pr _ (by omega) (by omega)) (pr _ (by omega) (by omega)) (pr _ (by omega) (by omega)) hm
  have hRP : miR (plI I o b c) o := miR_eq (pl_o (by decide)) (pr _ (by omega) (by omega)) (pr _ (by omega) (by omega)) (pr _ (by omega) (by omega)) (pr _ (by omega) (by omega)) hR
  have lvP : ∀ J, fR (plI I o b c) J o → I o 40 = 0 → lvE I J o := fun J h h40 => by
    refine ⟨fun q a => ?_, fun j a => ?_, fun j a => ?_, fun k a => ?_, fun h => absurd h40 h⟩
    · rw [h.1 q (by omega) (by omega), pl_row (by omega) (by omega)]
    · rw [h.2.1 j a, pl_row (by omega) (by omega)]
    · rw [h.2.2.1 j a, pl_row (by omega) (by omega)]
    · rw [h.2.2.2.2 k (by unfold sfd; omega) (by omega), pl_o (by omega)]
  have ouP : ∀ J, fR (plI I o b c) J o → outE I J o := fun J h q a => by rw [h.1 q (by omega) (by omega), pl_row (by omega) (by omega)]
  refine x_iload_n (pc := 0) hC dX12_foretell_0 rfl ?_
  refine x_mS (pc := 1) hC cs_X12_183 dX12_foretell_1 (m_isBranch hbr) rfl (by decide) rfl rfl (Nat.le_of_ble_eq_true rfl) ?_
  refine x_ifB_eq (pc := 4) hC 15 dX12_foretell_4 (by decide) (fun b4 => ?_) (fun b4 => ?_)
  · refine x_iconst (pc := 15) hC dX12_foretell_15 ?_
    refine x_iret (pc := 16) hC rfl dX12_foretell_16 ?_
    refine ⟨⟨?_, scr.rf.lvE, hm.2.1, scr.rf.outE⟩, rfl, rfl, rfl, rfl⟩
    unfold ftR; rw [if_neg (by omega)]
  · refine x_aload_n (pc := 7) hC dX12_foretell_7 rfl ?_
    refine x_iload_n (pc := 8) hC dX12_foretell_8 rfl ?_
    refine x_mV (pc := 9) hC cv_X12_171 dX12_foretell_9 (m_isCommit M hcr (by omega)) M.1 rfl (by decide) rfl rfl (Nat.le_of_ble_eq_true rfl) ?_
    refine x_ifB_ne (pc := 12) hC 17 dX12_foretell_12 (by decide) (fun b12 => ?_) (fun b12 => ?_)
    · refine x_iload_n (pc := 17) hC dX12_foretell_17 rfl ?_
      refine x_iconst (pc := 18) hC dX12_foretell_18 ?_
      refine x_iconst (pc := 19) hC dX12_foretell_19 ?_
      refine x_mS (pc := 20) hC cs_X12_139 dX12_foretell_20 (m_within hw (by decide) (by decide)) rfl (by decide) rfl rfl (Nat.le_of_ble_eq_true rfl) ?_
      refine x_ifB_ne (pc := 23) hC 40 dX12_foretell_23 (by decide) (fun b23 => ?_) (fun b23 => ?_)
      · refine x_aload_n (pc := 40) hC dX12_foretell_40 rfl ?_
        refine x_getI (pc := 41) hC gf_X12_189 dX12_foretell_41 M.1 ?_
        refine x_if_eq (pc := 44) hC 50 dX12_foretell_44 (by decide) (by omega) (fun b44 => ?_) (fun b44 => ?_)
        · refine x_aload_n (pc := 50) hC dX12_foretell_50 rfl ?_
          refine x_iload_n (pc := 51) hC dX12_foretell_51 rfl ?_
          refine x_iload_n (pc := 52) hC dX12_foretell_52 rfl ?_
          refine x_mV (pc := 53) hC cv_X12_289 dX12_foretell_53 (m_plans M hm b4 b12) M.1 rfl (by decide) rfl rfl (Nat.le_of_ble_eq_true rfl) ?_
          refine x_aload_n (pc := 56) hC dX12_foretell_56 rfl ?_
          refine x_getI (pc := 57) hC gf_X12_129 dX12_foretell_57 M.1 ?_
          refine x_aload_n (pc := 60) hC dX12_foretell_60 rfl ?_
          refine x_getI (pc := 61) hC gf_X12_262 dX12_foretell_61 M.1 ?_
          refine x_iadd (pc := 64) hC dX12_foretell_64 ?_
          refine x_bipush (pc := 65) hC dX12_foretell_65 (by decide) ?_
          rw [p2, pl_o46]
          refine x_icmp_le (pc := 67) hC 73 dX12_foretell_67 (by decide) (by omega) (by omega) (fun b67 => ?_) (fun b67 => ?_)
          · refine x_aload_n (pc := 73) hC dX12_foretell_73 rfl ?_
            refine x_iload_n (pc := 74) hC dX12_foretell_74 rfl ?_
            refine x_iload_n (pc := 75) hC dX12_foretell_75 rfl ?_
            refine x_mVx (pc := 76) hC cv_X12_322 dX12_foretell_76 (m_foretells M (td := tdL I o b c) (res := fore I o b c (tdL I o b c) (rowL I o c) 0 0) hmP hRP b4 (by rw [p2]; exact b12) pl_o46 (by omega) (fun i h0 h1 => pl_28 h0 h1) (fun x hx => by rw [p2]; exact td_in hm b12 hx) (by rw [fore_eq p2 (pl_o (by decide)) (fun q a1 a2 => pr q a1 (by omega)), rowL_eq (pr _ (by omega) (by omega)) (pr _ (by omega) (by omega))])) M.1 rfl (by decide) rfl rfl (Nat.le_of_ble_eq_true rfl) ?_
            rintro v J ⟨rfl, hF, f1, f2, f3, f4, f5, f6⟩
            dsimp only [Option.toList, List.nil_append]
            have hG : ftR I o b c w = ftV (fore I o b c (tdL I o b c) (rowL I o c) 0 0) w := by
              unfold ftR
              rw [if_pos ⟨b4, b12⟩, if_pos (by omega), if_pos b44, if_pos (by omega)]
            have hsr : ax_r (fore I o b c (tdL I o b c) (rowL I o c) 0 0).2.2.2.1 := by
              rcases fore_st (σ := I) (o := o) (b := b) (c := c) (tdL I o b c) (rowL I o c) 0 0 with h | h
              · rw [h]; decide
              · have := td_in hm b12 h
                omega
            obtain ⟨r, hr⟩ : ∃ q, q = fore I o b c (tdL I o b c) (rowL I o c) 0 0 := ⟨_, rfl⟩
            rw [← hr] at hG f1 f2 f3 f4 f5 f6 hsr
            have hl24 := hF.2.2.2.1.2 24
            have hlen : (r.1.length : Int) = J (o + 6) 24 := by rw [← f1]; exact rowL_len hF.2.2.2.1 24
            have hat : ∀ i : Int, 0 ≤ i → atO r.1 i = if i < J (o + 6) 24 then J (o + 5) (384 + i) else -9 := fun i hi => by
              rw [← f1]
              unfold rowL
              rw [atO_seg (by omega) hi]
              simp only [rwI, Int.zero_add, Int.sub_zero]
              rfl
            have hfin : lvE I J o ∧ lnOk J o ∧ outE I J o := ⟨lvP J hF b44, hF.2.2.2.1, ouP J hF⟩
            refine x_iload_n (pc := 79) hC dX12_foretell_79 rfl ?_
            by_cases t80_0 : w = 0
            · refine x_tswIn (pc := 80) hC 120 dX12_foretell_80 hw (by omega) (by omega) (by rw [t80_0]; rfl) (by decide) ?_
              refine x_aload_n (pc := 120) hC dX12_foretell_120 rfl ?_
              refine x_getI (pc := 121) hC gf_X12_313 dX12_foretell_121 M.1 ?_
              refine x_bipush (pc := 124) hC dX12_foretell_124 (by decide) ?_
              refine x_icmp_ne (pc := 126) hC 133 dX12_foretell_126 (by decide) (by omega) (by omega) (fun b126 => ?_) (fun b126 => ?_)
              · refine x_aload_n (pc := 133) hC dX12_foretell_133 rfl ?_
                refine x_getI (pc := 134) hC gf_X12_319 dX12_foretell_134 M.1 ?_
                refine x_iret (pc := 137) hC rfl dX12_foretell_137 ?_
                first
                | (exfalso; omega)
                | (refine ⟨⟨?_, hfin⟩, rfl, rfl, rfl, rfl⟩
                   rw [hG]
                   unfold ftV
                   first
                   | (rw [if_pos (by omega)]
                      first
                      | (rw [if_pos (by rw [← f4]; assumption)]; done)
                      | (rw [if_neg (by rw [← f4]; assumption), f6 (by rw [← f4]; assumption)]; done))
                   | (rw [if_neg (by omega), if_pos (by omega), f2]; done)
                   | (rw [if_neg (by omega), if_neg (by omega), if_pos (by omega), f3]; done)
                   | (rw [if_neg (by omega), if_neg (by omega), if_neg (by omega), if_pos (by omega), f4]; done)
                   | (rw [if_neg (by omega), if_neg (by omega), if_neg (by omega), if_neg (by omega), if_pos (by omega), f5]; done)
                   | (rw [if_neg (by omega), if_neg (by omega), if_neg (by omega), if_neg (by omega), if_neg (by omega), if_pos (by omega), hlen]; done)
                   | (rw [if_neg (by omega), if_neg (by omega), if_neg (by omega), if_neg (by omega), if_neg (by omega), if_neg (by omega), hat _ (by omega)]
                      first
                      | (rw [if_pos (by omega), show (384 : Int) + (w - 10) = 384 + w - 10 by omega]; done)
                      | (rw [if_neg (by omega)]; done)))
              · refine x_iconst (pc := 129) hC dX12_foretell_129 ?_
                refine x_goto (pc := 130) hC 137 dX12_foretell_130 (by decide) ?_
                refine x_iret (pc := 137) hC rfl dX12_foretell_137 ?_
                first
                | (exfalso; omega)
                | (refine ⟨⟨?_, hfin⟩, rfl, rfl, rfl, rfl⟩
                   rw [hG]
                   unfold ftV
                   first
                   | (rw [if_pos (by omega)]
                      first
                      | (rw [if_pos (by rw [← f4]; assumption)]; done)
                      | (rw [if_neg (by rw [← f4]; assumption), f6 (by rw [← f4]; assumption)]; done))
                   | (rw [if_neg (by omega), if_pos (by omega), f2]; done)
                   | (rw [if_neg (by omega), if_neg (by omega), if_pos (by omega), f3]; done)
                   | (rw [if_neg (by omega), if_neg (by omega), if_neg (by omega), if_pos (by omega), f4]; done)
                   | (rw [if_neg (by omega), if_neg (by omega), if_neg (by omega), if_neg (by omega), if_pos (by omega), f5]; done)
                   | (rw [if_neg (by omega), if_neg (by omega), if_neg (by omega), if_neg (by omega), if_neg (by omega), if_pos (by omega), hlen]; done)
                   | (rw [if_neg (by omega), if_neg (by omega), if_neg (by omega), if_neg (by omega), if_neg (by omega), if_neg (by omega), hat _ (by omega)]
                      first
                      | (rw [if_pos (by omega), show (384 : Int) + (w - 10) = 384 + w - 10 by omega]; done)
                      | (rw [if_neg (by omega)]; done)))
            · skip
              by_cases t80_1 : w = 1
              · refine x_tswIn (pc := 80) hC 138 dX12_foretell_80 hw (by omega) (by omega) (by rw [t80_1]; rfl) (by decide) ?_
                refine x_aload_n (pc := 138) hC dX12_foretell_138 rfl ?_
                refine x_getI (pc := 139) hC gf_X12_307 dX12_foretell_139 M.1 ?_
                refine x_iret (pc := 142) hC rfl dX12_foretell_142 ?_
                first
                | (exfalso; omega)
                | (refine ⟨⟨?_, hfin⟩, rfl, rfl, rfl, rfl⟩
                   rw [hG]
                   unfold ftV
                   first
                   | (rw [if_pos (by omega)]
                      first
                      | (rw [if_pos (by rw [← f4]; assumption)]; done)
                      | (rw [if_neg (by rw [← f4]; assumption), f6 (by rw [← f4]; assumption)]; done))
                   | (rw [if_neg (by omega), if_pos (by omega), f2]; done)
                   | (rw [if_neg (by omega), if_neg (by omega), if_pos (by omega), f3]; done)
                   | (rw [if_neg (by omega), if_neg (by omega), if_neg (by omega), if_pos (by omega), f4]; done)
                   | (rw [if_neg (by omega), if_neg (by omega), if_neg (by omega), if_neg (by omega), if_pos (by omega), f5]; done)
                   | (rw [if_neg (by omega), if_neg (by omega), if_neg (by omega), if_neg (by omega), if_neg (by omega), if_pos (by omega), hlen]; done)
                   | (rw [if_neg (by omega), if_neg (by omega), if_neg (by omega), if_neg (by omega), if_neg (by omega), if_neg (by omega), hat _ (by omega)]
                      first
                      | (rw [if_pos (by omega), show (384 : Int) + (w - 10) = 384 + w - 10 by omega]; done)
                      | (rw [if_neg (by omega)]; done)))
              · skip
                by_cases t80_2 : w = 2
                · refine x_tswIn (pc := 80) hC 143 dX12_foretell_80 hw (by omega) (by omega) (by rw [t80_2]; rfl) (by decide) ?_
                  refine x_aload_n (pc := 143) hC dX12_foretell_143 rfl ?_
                  refine x_getI (pc := 144) hC gf_X12_310 dX12_foretell_144 M.1 ?_
                  refine x_iret (pc := 147) hC rfl dX12_foretell_147 ?_
                  first
                  | (exfalso; omega)
                  | (refine ⟨⟨?_, hfin⟩, rfl, rfl, rfl, rfl⟩
                     rw [hG]
                     unfold ftV
                     first
                     | (rw [if_pos (by omega)]
                        first
                        | (rw [if_pos (by rw [← f4]; assumption)]; done)
                        | (rw [if_neg (by rw [← f4]; assumption), f6 (by rw [← f4]; assumption)]; done))
                     | (rw [if_neg (by omega), if_pos (by omega), f2]; done)
                     | (rw [if_neg (by omega), if_neg (by omega), if_pos (by omega), f3]; done)
                     | (rw [if_neg (by omega), if_neg (by omega), if_neg (by omega), if_pos (by omega), f4]; done)
                     | (rw [if_neg (by omega), if_neg (by omega), if_neg (by omega), if_neg (by omega), if_pos (by omega), f5]; done)
                     | (rw [if_neg (by omega), if_neg (by omega), if_neg (by omega), if_neg (by omega), if_neg (by omega), if_pos (by omega), hlen]; done)
                     | (rw [if_neg (by omega), if_neg (by omega), if_neg (by omega), if_neg (by omega), if_neg (by omega), if_neg (by omega), hat _ (by omega)]
                        first
                        | (rw [if_pos (by omega), show (384 : Int) + (w - 10) = 384 + w - 10 by omega]; done)
                        | (rw [if_neg (by omega)]; done)))
                · skip
                  by_cases t80_3 : w = 3
                  · refine x_tswIn (pc := 80) hC 148 dX12_foretell_80 hw (by omega) (by omega) (by rw [t80_3]; rfl) (by decide) ?_
                    refine x_aload_n (pc := 148) hC dX12_foretell_148 rfl ?_
                    refine x_getI (pc := 149) hC gf_X12_313 dX12_foretell_149 M.1 ?_
                    refine x_iret (pc := 152) hC rfl dX12_foretell_152 ?_
                    first
                    | (exfalso; omega)
                    | (refine ⟨⟨?_, hfin⟩, rfl, rfl, rfl, rfl⟩
                       rw [hG]
                       unfold ftV
                       first
                       | (rw [if_pos (by omega)]
                          first
                          | (rw [if_pos (by rw [← f4]; assumption)]; done)
                          | (rw [if_neg (by rw [← f4]; assumption), f6 (by rw [← f4]; assumption)]; done))
                       | (rw [if_neg (by omega), if_pos (by omega), f2]; done)
                       | (rw [if_neg (by omega), if_neg (by omega), if_pos (by omega), f3]; done)
                       | (rw [if_neg (by omega), if_neg (by omega), if_neg (by omega), if_pos (by omega), f4]; done)
                       | (rw [if_neg (by omega), if_neg (by omega), if_neg (by omega), if_neg (by omega), if_pos (by omega), f5]; done)
                       | (rw [if_neg (by omega), if_neg (by omega), if_neg (by omega), if_neg (by omega), if_neg (by omega), if_pos (by omega), hlen]; done)
                       | (rw [if_neg (by omega), if_neg (by omega), if_neg (by omega), if_neg (by omega), if_neg (by omega), if_neg (by omega), hat _ (by omega)]
                          first
                          | (rw [if_pos (by omega), show (384 : Int) + (w - 10) = 384 + w - 10 by omega]; done)
                          | (rw [if_neg (by omega)]; done)))
                  · skip
                    by_cases t80_4 : w = 4
                    · refine x_tswIn (pc := 80) hC 153 dX12_foretell_80 hw (by omega) (by omega) (by rw [t80_4]; rfl) (by decide) ?_
                      refine x_aload_n (pc := 153) hC dX12_foretell_153 rfl ?_
                      refine x_getI (pc := 154) hC gf_X12_316 dX12_foretell_154 M.1 ?_
                      refine x_iret (pc := 157) hC rfl dX12_foretell_157 ?_
                      first
                      | (exfalso; omega)
                      | (refine ⟨⟨?_, hfin⟩, rfl, rfl, rfl, rfl⟩
                         rw [hG]
                         unfold ftV
                         first
                         | (rw [if_pos (by omega)]
                            first
                            | (rw [if_pos (by rw [← f4]; assumption)]; done)
                            | (rw [if_neg (by rw [← f4]; assumption), f6 (by rw [← f4]; assumption)]; done))
                         | (rw [if_neg (by omega), if_pos (by omega), f2]; done)
                         | (rw [if_neg (by omega), if_neg (by omega), if_pos (by omega), f3]; done)
                         | (rw [if_neg (by omega), if_neg (by omega), if_neg (by omega), if_pos (by omega), f4]; done)
                         | (rw [if_neg (by omega), if_neg (by omega), if_neg (by omega), if_neg (by omega), if_pos (by omega), f5]; done)
                         | (rw [if_neg (by omega), if_neg (by omega), if_neg (by omega), if_neg (by omega), if_neg (by omega), if_pos (by omega), hlen]; done)
                         | (rw [if_neg (by omega), if_neg (by omega), if_neg (by omega), if_neg (by omega), if_neg (by omega), if_neg (by omega), hat _ (by omega)]
                            first
                            | (rw [if_pos (by omega), show (384 : Int) + (w - 10) = 384 + w - 10 by omega]; done)
                            | (rw [if_neg (by omega)]; done)))
                    · skip
                      by_cases t80_5 : w = 5
                      · refine x_tswIn (pc := 80) hC 158 dX12_foretell_80 hw (by omega) (by omega) (by rw [t80_5]; rfl) (by decide) ?_
                        refine x_aload_n (pc := 158) hC dX12_foretell_158 rfl ?_
                        refine x_getO (pc := 159) hC gf_X12_25 dX12_foretell_159 M.1 (mo_size M).1 ?_
                        refine x_bipush (pc := 162) hC dX12_foretell_162 (by decide) ?_
                        refine x_iald (pc := 164) hC dX12_foretell_164 (mo_size M).2.1 (by omega) (by rw [(mo_size M).2.2]; omega) ?_
                        refine x_iret (pc := 165) hC rfl dX12_foretell_165 ?_
                        first
                        | (exfalso; omega)
                        | (refine ⟨⟨?_, hfin⟩, rfl, rfl, rfl, rfl⟩
                           rw [hG]
                           unfold ftV
                           first
                           | (rw [if_pos (by omega)]
                              first
                              | (rw [if_pos (by rw [← f4]; assumption)]; done)
                              | (rw [if_neg (by rw [← f4]; assumption), f6 (by rw [← f4]; assumption)]; done))
                           | (rw [if_neg (by omega), if_pos (by omega), f2]; done)
                           | (rw [if_neg (by omega), if_neg (by omega), if_pos (by omega), f3]; done)
                           | (rw [if_neg (by omega), if_neg (by omega), if_neg (by omega), if_pos (by omega), f4]; done)
                           | (rw [if_neg (by omega), if_neg (by omega), if_neg (by omega), if_neg (by omega), if_pos (by omega), f5]; done)
                           | (rw [if_neg (by omega), if_neg (by omega), if_neg (by omega), if_neg (by omega), if_neg (by omega), if_pos (by omega), hlen]; done)
                           | (rw [if_neg (by omega), if_neg (by omega), if_neg (by omega), if_neg (by omega), if_neg (by omega), if_neg (by omega), hat _ (by omega)]
                              first
                              | (rw [if_pos (by omega), show (384 : Int) + (w - 10) = 384 + w - 10 by omega]; done)
                              | (rw [if_neg (by omega)]; done)))
                      · skip
                        refine x_tswOut (pc := 80) hC 166 dX12_foretell_80 (by decide) hw (by omega) ?_
                        refine x_iload_n (pc := 166) hC dX12_foretell_166 rfl ?_
                        refine x_bipush (pc := 167) hC dX12_foretell_167 (by decide) ?_
                        refine x_isub (pc := 169) hC dX12_foretell_169 ?_
                        refine x_aload_n (pc := 170) hC dX12_foretell_170 rfl ?_
                        refine x_getO (pc := 171) hC gf_X12_25 dX12_foretell_171 M.1 (mo_size M).1 ?_
                        refine x_bipush (pc := 174) hC dX12_foretell_174 (by decide) ?_
                        refine x_iald (pc := 176) hC dX12_foretell_176 (mo_size M).2.1 (by omega) (by rw [(mo_size M).2.2]; omega) ?_
                        refine x_icmp_ge (pc := 177) hC 196 dX12_foretell_177 (by decide) (by omega) (by omega) (fun b177 => ?_) (fun b177 => ?_)
                        · refine x_bipush (pc := 196) hC dX12_foretell_196 (by decide) ?_
                          refine x_iret (pc := 198) hC rfl dX12_foretell_198 ?_
                          first
                          | (exfalso; omega)
                          | (refine ⟨⟨?_, hfin⟩, rfl, rfl, rfl, rfl⟩
                             rw [hG]
                             unfold ftV
                             first
                             | (rw [if_pos (by omega)]
                                first
                                | (rw [if_pos (by rw [← f4]; assumption)]; done)
                                | (rw [if_neg (by rw [← f4]; assumption), f6 (by rw [← f4]; assumption)]; done))
                             | (rw [if_neg (by omega), if_pos (by omega), f2]; done)
                             | (rw [if_neg (by omega), if_neg (by omega), if_pos (by omega), f3]; done)
                             | (rw [if_neg (by omega), if_neg (by omega), if_neg (by omega), if_pos (by omega), f4]; done)
                             | (rw [if_neg (by omega), if_neg (by omega), if_neg (by omega), if_neg (by omega), if_pos (by omega), f5]; done)
                             | (rw [if_neg (by omega), if_neg (by omega), if_neg (by omega), if_neg (by omega), if_neg (by omega), if_pos (by omega), hlen]; done)
                             | (rw [if_neg (by omega), if_neg (by omega), if_neg (by omega), if_neg (by omega), if_neg (by omega), if_neg (by omega), hat _ (by omega)]
                                first
                                | (rw [if_pos (by omega), show (384 : Int) + (w - 10) = 384 + w - 10 by omega]; done)
                                | (rw [if_neg (by omega)]; done)))
                        · refine x_aload_n (pc := 180) hC dX12_foretell_180 rfl ?_
                          refine x_getO (pc := 181) hC gf_X12_22 dX12_foretell_181 M.1 (mo_line M).1 ?_
                          refine x_sipush (pc := 184) hC dX12_foretell_184 (by decide) ?_
                          refine x_iload_n (pc := 187) hC dX12_foretell_187 rfl ?_
                          refine x_iadd (pc := 188) hC dX12_foretell_188 ?_
                          refine x_bipush (pc := 189) hC dX12_foretell_189 (by decide) ?_
                          refine x_isub (pc := 191) hC dX12_foretell_191 ?_
                          refine x_iald (pc := 192) hC dX12_foretell_192 (mo_line M).2.1 (by omega) (by rw [(mo_line M).2.2]; omega) ?_
                          refine x_goto (pc := 193) hC 198 dX12_foretell_193 (by decide) ?_
                          refine x_iret (pc := 198) hC rfl dX12_foretell_198 ?_
                          first
                          | (exfalso; omega)
                          | (refine ⟨⟨?_, hfin⟩, rfl, rfl, rfl, rfl⟩
                             rw [hG]
                             unfold ftV
                             first
                             | (rw [if_pos (by omega)]
                                first
                                | (rw [if_pos (by rw [← f4]; assumption)]; done)
                                | (rw [if_neg (by rw [← f4]; assumption), f6 (by rw [← f4]; assumption)]; done))
                             | (rw [if_neg (by omega), if_pos (by omega), f2]; done)
                             | (rw [if_neg (by omega), if_neg (by omega), if_pos (by omega), f3]; done)
                             | (rw [if_neg (by omega), if_neg (by omega), if_neg (by omega), if_pos (by omega), f4]; done)
                             | (rw [if_neg (by omega), if_neg (by omega), if_neg (by omega), if_neg (by omega), if_pos (by omega), f5]; done)
                             | (rw [if_neg (by omega), if_neg (by omega), if_neg (by omega), if_neg (by omega), if_neg (by omega), if_pos (by omega), hlen]; done)
                             | (rw [if_neg (by omega), if_neg (by omega), if_neg (by omega), if_neg (by omega), if_neg (by omega), if_neg (by omega), hat _ (by omega)]
                                first
                                | (rw [if_pos (by omega), show (384 : Int) + (w - 10) = 384 + w - 10 by omega]; done)
                                | (rw [if_neg (by omega)]; done)))
          · refine x_bipush (pc := 70) hC dX12_foretell_70 (by decide) ?_
            refine x_iret (pc := 72) hC rfl dX12_foretell_72 ?_
            refine ⟨⟨?_, ?_, lnOk_eq (pr _ (by omega) (by omega)) (pr _ (by omega) (by omega)) hm.2.1, fun q a => pl_row (by omega) (by omega)⟩, rfl, rfl, rfl, rfl⟩
            · unfold ftR; rw [if_pos ⟨b4, b12⟩, if_pos (by omega), if_pos b44, if_neg (by omega)]
            · exact lvP _ (fR.rf (lnOk_eq (pr _ (by omega) (by omega)) (pr _ (by omega) (by omega)) hm.2.1)) b44
        · refine x_bipush (pc := 47) hC dX12_foretell_47 (by decide) ?_
          refine x_iret (pc := 49) hC rfl dX12_foretell_49 ?_
          refine ⟨⟨?_, scr.rf.lvE, hm.2.1, scr.rf.outE⟩, rfl, rfl, rfl, rfl⟩
          unfold ftR; rw [if_pos ⟨b4, b12⟩, if_pos (by omega), if_neg b44]
      · refine x_iload_n (pc := 26) hC dX12_foretell_26 rfl ?_
        refine x_bipush (pc := 27) hC dX12_foretell_27 (by decide) ?_
        refine x_bipush (pc := 29) hC dX12_foretell_29 (by decide) ?_
        refine x_mS (pc := 31) hC cs_X12_139 dX12_foretell_31 (m_within hw (by decide) (by decide)) rfl (by decide) rfl rfl (Nat.le_of_ble_eq_true rfl) ?_
        refine x_ifB_ne (pc := 34) hC 40 dX12_foretell_34 (by decide) (fun b34 => ?_) (fun b34 => ?_)
        · refine x_aload_n (pc := 40) hC dX12_foretell_40 rfl ?_
          refine x_getI (pc := 41) hC gf_X12_189 dX12_foretell_41 M.1 ?_
          refine x_if_eq (pc := 44) hC 50 dX12_foretell_44 (by decide) (by omega) (fun b44 => ?_) (fun b44 => ?_)
          · refine x_aload_n (pc := 50) hC dX12_foretell_50 rfl ?_
            refine x_iload_n (pc := 51) hC dX12_foretell_51 rfl ?_
            refine x_iload_n (pc := 52) hC dX12_foretell_52 rfl ?_
            refine x_mV (pc := 53) hC cv_X12_289 dX12_foretell_53 (m_plans M hm b4 b12) M.1 rfl (by decide) rfl rfl (Nat.le_of_ble_eq_true rfl) ?_
            refine x_aload_n (pc := 56) hC dX12_foretell_56 rfl ?_
            refine x_getI (pc := 57) hC gf_X12_129 dX12_foretell_57 M.1 ?_
            refine x_aload_n (pc := 60) hC dX12_foretell_60 rfl ?_
            refine x_getI (pc := 61) hC gf_X12_262 dX12_foretell_61 M.1 ?_
            refine x_iadd (pc := 64) hC dX12_foretell_64 ?_
            refine x_bipush (pc := 65) hC dX12_foretell_65 (by decide) ?_
            rw [p2, pl_o46]
            refine x_icmp_le (pc := 67) hC 73 dX12_foretell_67 (by decide) (by omega) (by omega) (fun b67 => ?_) (fun b67 => ?_)
            · refine x_aload_n (pc := 73) hC dX12_foretell_73 rfl ?_
              refine x_iload_n (pc := 74) hC dX12_foretell_74 rfl ?_
              refine x_iload_n (pc := 75) hC dX12_foretell_75 rfl ?_
              refine x_mVx (pc := 76) hC cv_X12_322 dX12_foretell_76 (m_foretells M (td := tdL I o b c) (res := fore I o b c (tdL I o b c) (rowL I o c) 0 0) hmP hRP b4 (by rw [p2]; exact b12) pl_o46 (by omega) (fun i h0 h1 => pl_28 h0 h1) (fun x hx => by rw [p2]; exact td_in hm b12 hx) (by rw [fore_eq p2 (pl_o (by decide)) (fun q a1 a2 => pr q a1 (by omega)), rowL_eq (pr _ (by omega) (by omega)) (pr _ (by omega) (by omega))])) M.1 rfl (by decide) rfl rfl (Nat.le_of_ble_eq_true rfl) ?_
              rintro v J ⟨rfl, hF, f1, f2, f3, f4, f5, f6⟩
              dsimp only [Option.toList, List.nil_append]
              have hG : ftR I o b c w = ftV (fore I o b c (tdL I o b c) (rowL I o c) 0 0) w := by
                unfold ftR
                rw [if_pos ⟨b4, b12⟩, if_pos (by omega), if_pos b44, if_pos (by omega)]
              have hsr : ax_r (fore I o b c (tdL I o b c) (rowL I o c) 0 0).2.2.2.1 := by
                rcases fore_st (σ := I) (o := o) (b := b) (c := c) (tdL I o b c) (rowL I o c) 0 0 with h | h
                · rw [h]; decide
                · have := td_in hm b12 h
                  omega
              obtain ⟨r, hr⟩ : ∃ q, q = fore I o b c (tdL I o b c) (rowL I o c) 0 0 := ⟨_, rfl⟩
              rw [← hr] at hG f1 f2 f3 f4 f5 f6 hsr
              have hl24 := hF.2.2.2.1.2 24
              have hlen : (r.1.length : Int) = J (o + 6) 24 := by rw [← f1]; exact rowL_len hF.2.2.2.1 24
              have hat : ∀ i : Int, 0 ≤ i → atO r.1 i = if i < J (o + 6) 24 then J (o + 5) (384 + i) else -9 := fun i hi => by
                rw [← f1]
                unfold rowL
                rw [atO_seg (by omega) hi]
                simp only [rwI, Int.zero_add, Int.sub_zero]
                rfl
              have hfin : lvE I J o ∧ lnOk J o ∧ outE I J o := ⟨lvP J hF b44, hF.2.2.2.1, ouP J hF⟩
              refine x_iload_n (pc := 79) hC dX12_foretell_79 rfl ?_
              by_cases t80_0 : w = 0
              · refine x_tswIn (pc := 80) hC 120 dX12_foretell_80 hw (by omega) (by omega) (by rw [t80_0]; rfl) (by decide) ?_
                refine x_aload_n (pc := 120) hC dX12_foretell_120 rfl ?_
                refine x_getI (pc := 121) hC gf_X12_313 dX12_foretell_121 M.1 ?_
                refine x_bipush (pc := 124) hC dX12_foretell_124 (by decide) ?_
                refine x_icmp_ne (pc := 126) hC 133 dX12_foretell_126 (by decide) (by omega) (by omega) (fun b126 => ?_) (fun b126 => ?_)
                · refine x_aload_n (pc := 133) hC dX12_foretell_133 rfl ?_
                  refine x_getI (pc := 134) hC gf_X12_319 dX12_foretell_134 M.1 ?_
                  refine x_iret (pc := 137) hC rfl dX12_foretell_137 ?_
                  first
                  | (exfalso; omega)
                  | (refine ⟨⟨?_, hfin⟩, rfl, rfl, rfl, rfl⟩
                     rw [hG]
                     unfold ftV
                     first
                     | (rw [if_pos (by omega)]
                        first
                        | (rw [if_pos (by rw [← f4]; assumption)]; done)
                        | (rw [if_neg (by rw [← f4]; assumption), f6 (by rw [← f4]; assumption)]; done))
                     | (rw [if_neg (by omega), if_pos (by omega), f2]; done)
                     | (rw [if_neg (by omega), if_neg (by omega), if_pos (by omega), f3]; done)
                     | (rw [if_neg (by omega), if_neg (by omega), if_neg (by omega), if_pos (by omega), f4]; done)
                     | (rw [if_neg (by omega), if_neg (by omega), if_neg (by omega), if_neg (by omega), if_pos (by omega), f5]; done)
                     | (rw [if_neg (by omega), if_neg (by omega), if_neg (by omega), if_neg (by omega), if_neg (by omega), if_pos (by omega), hlen]; done)
                     | (rw [if_neg (by omega), if_neg (by omega), if_neg (by omega), if_neg (by omega), if_neg (by omega), if_neg (by omega), hat _ (by omega)]
                        first
                        | (rw [if_pos (by omega), show (384 : Int) + (w - 10) = 384 + w - 10 by omega]; done)
                        | (rw [if_neg (by omega)]; done)))
                · refine x_iconst (pc := 129) hC dX12_foretell_129 ?_
                  refine x_goto (pc := 130) hC 137 dX12_foretell_130 (by decide) ?_
                  refine x_iret (pc := 137) hC rfl dX12_foretell_137 ?_
                  first
                  | (exfalso; omega)
                  | (refine ⟨⟨?_, hfin⟩, rfl, rfl, rfl, rfl⟩
                     rw [hG]
                     unfold ftV
                     first
                     | (rw [if_pos (by omega)]
                        first
                        | (rw [if_pos (by rw [← f4]; assumption)]; done)
                        | (rw [if_neg (by rw [← f4]; assumption), f6 (by rw [← f4]; assumption)]; done))
                     | (rw [if_neg (by omega), if_pos (by omega), f2]; done)
                     | (rw [if_neg (by omega), if_neg (by omega), if_pos (by omega), f3]; done)
                     | (rw [if_neg (by omega), if_neg (by omega), if_neg (by omega), if_pos (by omega), f4]; done)
                     | (rw [if_neg (by omega), if_neg (by omega), if_neg (by omega), if_neg (by omega), if_pos (by omega), f5]; done)
                     | (rw [if_neg (by omega), if_neg (by omega), if_neg (by omega), if_neg (by omega), if_neg (by omega), if_pos (by omega), hlen]; done)
                     | (rw [if_neg (by omega), if_neg (by omega), if_neg (by omega), if_neg (by omega), if_neg (by omega), if_neg (by omega), hat _ (by omega)]
                        first
                        | (rw [if_pos (by omega), show (384 : Int) + (w - 10) = 384 + w - 10 by omega]; done)
                        | (rw [if_neg (by omega)]; done)))
              · skip
                by_cases t80_1 : w = 1
                · refine x_tswIn (pc := 80) hC 138 dX12_foretell_80 hw (by omega) (by omega) (by rw [t80_1]; rfl) (by decide) ?_
                  refine x_aload_n (pc := 138) hC dX12_foretell_138 rfl ?_
                  refine x_getI (pc := 139) hC gf_X12_307 dX12_foretell_139 M.1 ?_
                  refine x_iret (pc := 142) hC rfl dX12_foretell_142 ?_
                  first
                  | (exfalso; omega)
                  | (refine ⟨⟨?_, hfin⟩, rfl, rfl, rfl, rfl⟩
                     rw [hG]
                     unfold ftV
                     first
                     | (rw [if_pos (by omega)]
                        first
                        | (rw [if_pos (by rw [← f4]; assumption)]; done)
                        | (rw [if_neg (by rw [← f4]; assumption), f6 (by rw [← f4]; assumption)]; done))
                     | (rw [if_neg (by omega), if_pos (by omega), f2]; done)
                     | (rw [if_neg (by omega), if_neg (by omega), if_pos (by omega), f3]; done)
                     | (rw [if_neg (by omega), if_neg (by omega), if_neg (by omega), if_pos (by omega), f4]; done)
                     | (rw [if_neg (by omega), if_neg (by omega), if_neg (by omega), if_neg (by omega), if_pos (by omega), f5]; done)
                     | (rw [if_neg (by omega), if_neg (by omega), if_neg (by omega), if_neg (by omega), if_neg (by omega), if_pos (by omega), hlen]; done)
                     | (rw [if_neg (by omega), if_neg (by omega), if_neg (by omega), if_neg (by omega), if_neg (by omega), if_neg (by omega), hat _ (by omega)]
                        first
                        | (rw [if_pos (by omega), show (384 : Int) + (w - 10) = 384 + w - 10 by omega]; done)
                        | (rw [if_neg (by omega)]; done)))
                · skip
                  by_cases t80_2 : w = 2
                  · refine x_tswIn (pc := 80) hC 143 dX12_foretell_80 hw (by omega) (by omega) (by rw [t80_2]; rfl) (by decide) ?_
                    refine x_aload_n (pc := 143) hC dX12_foretell_143 rfl ?_
                    refine x_getI (pc := 144) hC gf_X12_310 dX12_foretell_144 M.1 ?_
                    refine x_iret (pc := 147) hC rfl dX12_foretell_147 ?_
                    first
                    | (exfalso; omega)
                    | (refine ⟨⟨?_, hfin⟩, rfl, rfl, rfl, rfl⟩
                       rw [hG]
                       unfold ftV
                       first
                       | (rw [if_pos (by omega)]
                          first
                          | (rw [if_pos (by rw [← f4]; assumption)]; done)
                          | (rw [if_neg (by rw [← f4]; assumption), f6 (by rw [← f4]; assumption)]; done))
                       | (rw [if_neg (by omega), if_pos (by omega), f2]; done)
                       | (rw [if_neg (by omega), if_neg (by omega), if_pos (by omega), f3]; done)
                       | (rw [if_neg (by omega), if_neg (by omega), if_neg (by omega), if_pos (by omega), f4]; done)
                       | (rw [if_neg (by omega), if_neg (by omega), if_neg (by omega), if_neg (by omega), if_pos (by omega), f5]; done)
                       | (rw [if_neg (by omega), if_neg (by omega), if_neg (by omega), if_neg (by omega), if_neg (by omega), if_pos (by omega), hlen]; done)
                       | (rw [if_neg (by omega), if_neg (by omega), if_neg (by omega), if_neg (by omega), if_neg (by omega), if_neg (by omega), hat _ (by omega)]
                          first
                          | (rw [if_pos (by omega), show (384 : Int) + (w - 10) = 384 + w - 10 by omega]; done)
                          | (rw [if_neg (by omega)]; done)))
                  · skip
                    by_cases t80_3 : w = 3
                    · refine x_tswIn (pc := 80) hC 148 dX12_foretell_80 hw (by omega) (by omega) (by rw [t80_3]; rfl) (by decide) ?_
                      refine x_aload_n (pc := 148) hC dX12_foretell_148 rfl ?_
                      refine x_getI (pc := 149) hC gf_X12_313 dX12_foretell_149 M.1 ?_
                      refine x_iret (pc := 152) hC rfl dX12_foretell_152 ?_
                      first
                      | (exfalso; omega)
                      | (refine ⟨⟨?_, hfin⟩, rfl, rfl, rfl, rfl⟩
                         rw [hG]
                         unfold ftV
                         first
                         | (rw [if_pos (by omega)]
                            first
                            | (rw [if_pos (by rw [← f4]; assumption)]; done)
                            | (rw [if_neg (by rw [← f4]; assumption), f6 (by rw [← f4]; assumption)]; done))
                         | (rw [if_neg (by omega), if_pos (by omega), f2]; done)
                         | (rw [if_neg (by omega), if_neg (by omega), if_pos (by omega), f3]; done)
                         | (rw [if_neg (by omega), if_neg (by omega), if_neg (by omega), if_pos (by omega), f4]; done)
                         | (rw [if_neg (by omega), if_neg (by omega), if_neg (by omega), if_neg (by omega), if_pos (by omega), f5]; done)
                         | (rw [if_neg (by omega), if_neg (by omega), if_neg (by omega), if_neg (by omega), if_neg (by omega), if_pos (by omega), hlen]; done)
                         | (rw [if_neg (by omega), if_neg (by omega), if_neg (by omega), if_neg (by omega), if_neg (by omega), if_neg (by omega), hat _ (by omega)]
                            first
                            | (rw [if_pos (by omega), show (384 : Int) + (w - 10) = 384 + w - 10 by omega]; done)
                            | (rw [if_neg (by omega)]; done)))
                    · skip
                      by_cases t80_4 : w = 4
                      · refine x_tswIn (pc := 80) hC 153 dX12_foretell_80 hw (by omega) (by omega) (by rw [t80_4]; rfl) (by decide) ?_
                        refine x_aload_n (pc := 153) hC dX12_foretell_153 rfl ?_
                        refine x_getI (pc := 154) hC gf_X12_316 dX12_foretell_154 M.1 ?_
                        refine x_iret (pc := 157) hC rfl dX12_foretell_157 ?_
                        first
                        | (exfalso; omega)
                        | (refine ⟨⟨?_, hfin⟩, rfl, rfl, rfl, rfl⟩
                           rw [hG]
                           unfold ftV
                           first
                           | (rw [if_pos (by omega)]
                              first
                              | (rw [if_pos (by rw [← f4]; assumption)]; done)
                              | (rw [if_neg (by rw [← f4]; assumption), f6 (by rw [← f4]; assumption)]; done))
                           | (rw [if_neg (by omega), if_pos (by omega), f2]; done)
                           | (rw [if_neg (by omega), if_neg (by omega), if_pos (by omega), f3]; done)
                           | (rw [if_neg (by omega), if_neg (by omega), if_neg (by omega), if_pos (by omega), f4]; done)
                           | (rw [if_neg (by omega), if_neg (by omega), if_neg (by omega), if_neg (by omega), if_pos (by omega), f5]; done)
                           | (rw [if_neg (by omega), if_neg (by omega), if_neg (by omega), if_neg (by omega), if_neg (by omega), if_pos (by omega), hlen]; done)
                           | (rw [if_neg (by omega), if_neg (by omega), if_neg (by omega), if_neg (by omega), if_neg (by omega), if_neg (by omega), hat _ (by omega)]
                              first
                              | (rw [if_pos (by omega), show (384 : Int) + (w - 10) = 384 + w - 10 by omega]; done)
                              | (rw [if_neg (by omega)]; done)))
                      · skip
                        by_cases t80_5 : w = 5
                        · refine x_tswIn (pc := 80) hC 158 dX12_foretell_80 hw (by omega) (by omega) (by rw [t80_5]; rfl) (by decide) ?_
                          refine x_aload_n (pc := 158) hC dX12_foretell_158 rfl ?_
                          refine x_getO (pc := 159) hC gf_X12_25 dX12_foretell_159 M.1 (mo_size M).1 ?_
                          refine x_bipush (pc := 162) hC dX12_foretell_162 (by decide) ?_
                          refine x_iald (pc := 164) hC dX12_foretell_164 (mo_size M).2.1 (by omega) (by rw [(mo_size M).2.2]; omega) ?_
                          refine x_iret (pc := 165) hC rfl dX12_foretell_165 ?_
                          first
                          | (exfalso; omega)
                          | (refine ⟨⟨?_, hfin⟩, rfl, rfl, rfl, rfl⟩
                             rw [hG]
                             unfold ftV
                             first
                             | (rw [if_pos (by omega)]
                                first
                                | (rw [if_pos (by rw [← f4]; assumption)]; done)
                                | (rw [if_neg (by rw [← f4]; assumption), f6 (by rw [← f4]; assumption)]; done))
                             | (rw [if_neg (by omega), if_pos (by omega), f2]; done)
                             | (rw [if_neg (by omega), if_neg (by omega), if_pos (by omega), f3]; done)
                             | (rw [if_neg (by omega), if_neg (by omega), if_neg (by omega), if_pos (by omega), f4]; done)
                             | (rw [if_neg (by omega), if_neg (by omega), if_neg (by omega), if_neg (by omega), if_pos (by omega), f5]; done)
                             | (rw [if_neg (by omega), if_neg (by omega), if_neg (by omega), if_neg (by omega), if_neg (by omega), if_pos (by omega), hlen]; done)
                             | (rw [if_neg (by omega), if_neg (by omega), if_neg (by omega), if_neg (by omega), if_neg (by omega), if_neg (by omega), hat _ (by omega)]
                                first
                                | (rw [if_pos (by omega), show (384 : Int) + (w - 10) = 384 + w - 10 by omega]; done)
                                | (rw [if_neg (by omega)]; done)))
                        · skip
                          refine x_tswOut (pc := 80) hC 166 dX12_foretell_80 (by decide) hw (by omega) ?_
                          refine x_iload_n (pc := 166) hC dX12_foretell_166 rfl ?_
                          refine x_bipush (pc := 167) hC dX12_foretell_167 (by decide) ?_
                          refine x_isub (pc := 169) hC dX12_foretell_169 ?_
                          refine x_aload_n (pc := 170) hC dX12_foretell_170 rfl ?_
                          refine x_getO (pc := 171) hC gf_X12_25 dX12_foretell_171 M.1 (mo_size M).1 ?_
                          refine x_bipush (pc := 174) hC dX12_foretell_174 (by decide) ?_
                          refine x_iald (pc := 176) hC dX12_foretell_176 (mo_size M).2.1 (by omega) (by rw [(mo_size M).2.2]; omega) ?_
                          refine x_icmp_ge (pc := 177) hC 196 dX12_foretell_177 (by decide) (by omega) (by omega) (fun b177 => ?_) (fun b177 => ?_)
                          · refine x_bipush (pc := 196) hC dX12_foretell_196 (by decide) ?_
                            refine x_iret (pc := 198) hC rfl dX12_foretell_198 ?_
                            first
                            | (exfalso; omega)
                            | (refine ⟨⟨?_, hfin⟩, rfl, rfl, rfl, rfl⟩
                               rw [hG]
                               unfold ftV
                               first
                               | (rw [if_pos (by omega)]
                                  first
                                  | (rw [if_pos (by rw [← f4]; assumption)]; done)
                                  | (rw [if_neg (by rw [← f4]; assumption), f6 (by rw [← f4]; assumption)]; done))
                               | (rw [if_neg (by omega), if_pos (by omega), f2]; done)
                               | (rw [if_neg (by omega), if_neg (by omega), if_pos (by omega), f3]; done)
                               | (rw [if_neg (by omega), if_neg (by omega), if_neg (by omega), if_pos (by omega), f4]; done)
                               | (rw [if_neg (by omega), if_neg (by omega), if_neg (by omega), if_neg (by omega), if_pos (by omega), f5]; done)
                               | (rw [if_neg (by omega), if_neg (by omega), if_neg (by omega), if_neg (by omega), if_neg (by omega), if_pos (by omega), hlen]; done)
                               | (rw [if_neg (by omega), if_neg (by omega), if_neg (by omega), if_neg (by omega), if_neg (by omega), if_neg (by omega), hat _ (by omega)]
                                  first
                                  | (rw [if_pos (by omega), show (384 : Int) + (w - 10) = 384 + w - 10 by omega]; done)
                                  | (rw [if_neg (by omega)]; done)))
                          · refine x_aload_n (pc := 180) hC dX12_foretell_180 rfl ?_
                            refine x_getO (pc := 181) hC gf_X12_22 dX12_foretell_181 M.1 (mo_line M).1 ?_
                            refine x_sipush (pc := 184) hC dX12_foretell_184 (by decide) ?_
                            refine x_iload_n (pc := 187) hC dX12_foretell_187 rfl ?_
                            refine x_iadd (pc := 188) hC dX12_foretell_188 ?_
                            refine x_bipush (pc := 189) hC dX12_foretell_189 (by decide) ?_
                            refine x_isub (pc := 191) hC dX12_foretell_191 ?_
                            refine x_iald (pc := 192) hC dX12_foretell_192 (mo_line M).2.1 (by omega) (by rw [(mo_line M).2.2]; omega) ?_
                            refine x_goto (pc := 193) hC 198 dX12_foretell_193 (by decide) ?_
                            refine x_iret (pc := 198) hC rfl dX12_foretell_198 ?_
                            first
                            | (exfalso; omega)
                            | (refine ⟨⟨?_, hfin⟩, rfl, rfl, rfl, rfl⟩
                               rw [hG]
                               unfold ftV
                               first
                               | (rw [if_pos (by omega)]
                                  first
                                  | (rw [if_pos (by rw [← f4]; assumption)]; done)
                                  | (rw [if_neg (by rw [← f4]; assumption), f6 (by rw [← f4]; assumption)]; done))
                               | (rw [if_neg (by omega), if_pos (by omega), f2]; done)
                               | (rw [if_neg (by omega), if_neg (by omega), if_pos (by omega), f3]; done)
                               | (rw [if_neg (by omega), if_neg (by omega), if_neg (by omega), if_pos (by omega), f4]; done)
                               | (rw [if_neg (by omega), if_neg (by omega), if_neg (by omega), if_neg (by omega), if_pos (by omega), f5]; done)
                               | (rw [if_neg (by omega), if_neg (by omega), if_neg (by omega), if_neg (by omega), if_neg (by omega), if_pos (by omega), hlen]; done)
                               | (rw [if_neg (by omega), if_neg (by omega), if_neg (by omega), if_neg (by omega), if_neg (by omega), if_neg (by omega), hat _ (by omega)]
                                  first
                                  | (rw [if_pos (by omega), show (384 : Int) + (w - 10) = 384 + w - 10 by omega]; done)
                                  | (rw [if_neg (by omega)]; done)))
            · refine x_bipush (pc := 70) hC dX12_foretell_70 (by decide) ?_
              refine x_iret (pc := 72) hC rfl dX12_foretell_72 ?_
              refine ⟨⟨?_, ?_, lnOk_eq (pr _ (by omega) (by omega)) (pr _ (by omega) (by omega)) hm.2.1, fun q a => pl_row (by omega) (by omega)⟩, rfl, rfl, rfl, rfl⟩
              · unfold ftR; rw [if_pos ⟨b4, b12⟩, if_pos (by omega), if_pos b44, if_neg (by omega)]
              · exact lvP _ (fR.rf (lnOk_eq (pr _ (by omega) (by omega)) (pr _ (by omega) (by omega)) hm.2.1)) b44
          · refine x_bipush (pc := 47) hC dX12_foretell_47 (by decide) ?_
            refine x_iret (pc := 49) hC rfl dX12_foretell_49 ?_
            refine ⟨⟨?_, scr.rf.lvE, hm.2.1, scr.rf.outE⟩, rfl, rfl, rfl, rfl⟩
            unfold ftR; rw [if_pos ⟨b4, b12⟩, if_pos (by omega), if_neg b44]
        · refine x_bipush (pc := 37) hC dX12_foretell_37 (by decide) ?_
          refine x_iret (pc := 39) hC rfl dX12_foretell_39 ?_
          refine ⟨⟨?_, scr.rf.lvE, hm.2.1, scr.rf.outE⟩, rfl, rfl, rfl, rfl⟩
          unfold ftR; rw [if_pos ⟨b4, b12⟩, if_neg (by omega)]
    · refine x_iconst (pc := 15) hC dX12_foretell_15 ?_
      refine x_iret (pc := 16) hC rfl dX12_foretell_16 ?_
      refine ⟨⟨?_, scr.rf.lvE, hm.2.1, scr.rf.outE⟩, rfl, rfl, rfl, rfl⟩
      unfold ftR; rw [if_neg (by omega)]

