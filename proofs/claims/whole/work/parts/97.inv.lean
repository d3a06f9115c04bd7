/-! WHAT HOLDS OF THE NUMBERS BETWEEN CALLS -/
def STP (σ : Nat → Int → Int) (o : Nat) : Prop := rp σ o ∧ σ o 47 < σ o 46 ∧ σ o 2 + (σ o 46 - σ o 47) ≤ 24 ∧ (σ o 43 = σ o 42 ∨ σ o 44 ≤ σ o 43) ∧ σ o 42 < σ o 44 ∧ σ o 44 ≤ σ o 2 ∧ (∀ b, 0 ≤ b → b < 4 → σ (o + 7) b < σ o 44) ∧ ¬ thP σ o (goX σ o) (σ o 41) (σ o 42)
def INV (σ : Nat → Int → Int) (o : Nat) (n : Int) : Prop := miC σ o ∧ miR σ o ∧ miS σ o ∧ miK σ o ∧ σ (o + 6) 0 = 0 ∧ (0 ≤ σ o 40 ∧ σ o 40 ≤ 2) ∧ (σ o 40 ≠ 0 → STP σ o) ∧ σ o 3 ≤ n
theorem iv_C {σ : Nat → Int → Int} {o : Nat} {n : Int} (h : INV σ o n) : miC σ o := h.1
theorem iv_R {σ : Nat → Int → Int} {o : Nat} {n : Int} (h : INV σ o n) : miR σ o := h.2.1
theorem iv_S {σ : Nat → Int → Int} {o : Nat} {n : Int} (h : INV σ o n) : miS σ o := h.2.2.1
theorem iv_K {σ : Nat → Int → Int} {o : Nat} {n : Int} (h : INV σ o n) : miK σ o := h.2.2.2.1
theorem iv_0 {σ : Nat → Int → Int} {o : Nat} {n : Int} (h : INV σ o n) : σ (o + 6) 0 = 0 := h.2.2.2.2.1
theorem iv_40 {σ : Nat → Int → Int} {o : Nat} {n : Int} (h : INV σ o n) : 0 ≤ σ o 40 ∧ σ o 40 ≤ 2 := h.2.2.2.2.2.1
theorem iv_st {σ : Nat → Int → Int} {o : Nat} {n : Int} (h : INV σ o n) : σ o 40 ≠ 0 → STP σ o := h.2.2.2.2.2.2.1
theorem iv_n {σ : Nat → Int → Int} {o : Nat} {n : Int} (h : INV σ o n) : σ o 3 ≤ n := h.2.2.2.2.2.2.2
theorem iv_up {σ : Nat → Int → Int} {o : Nat} {n m : Int} (h : INV σ o n) (hm : n ≤ m) : INV σ o m := ⟨iv_C h, iv_R h, iv_S h, iv_K h, iv_0 h, iv_40 h, iv_st h, by have := iv_n h; omega⟩
theorem iv_rp {σ : Nat → Int → Int} {o : Nat} {n : Int} (h : INV σ o n) : rpS σ o := ⟨iv_40 h, fun h9 => ⟨(iv_st h h9).1, (iv_st h h9).2.1, (iv_st h h9).2.2.1, (iv_st h h9).2.2.2.2.2.1⟩⟩
theorem rp_e {σ : Nat → Int → Int} {o : Nat} {e : Int} (h : rp σ o) : rp (ax_u σ o 40 e) o := by
  unfold rp
  rw [e_fld (by decide), e_fld (by decide), e_fld (by decide), e_fld (by decide), e_fld (by decide), e_fld (by decide), e_fld (by decide), e_row (by omega)]
  exact h
theorem iv_hc {σ : Nat → Int → Int} {o : Nat} {n : Int} (h : INV σ o n) : σ o 40 ≠ 0 → cI (ax_u σ o 40 0) o ∧ ¬ thP σ o (goX σ o) (σ o 41) (σ o 42) := fun h9 => by
  obtain ⟨s1, s2, s3, s4, s5, s6, s7, s8⟩ := iv_st h h9
  refine ⟨⟨⟨e_miC (iv_C h), e_miR (iv_R h), rp_e s1⟩, e_miS (iv_S h), ?_, ?_, ?_, ?_, ?_, axu_s⟩, s8⟩
  · rw [e_fld (by decide), e_fld (by decide), e_fld (by decide)]; exact s3
  · rw [e_fld (by decide), e_fld (by decide), e_fld (by decide)]; exact s4
  · rw [e_fld (by decide), e_fld (by decide)]; exact s5
  · rw [e_fld (by decide), e_fld (by decide)]; exact s6
  · rw [e_row (by omega)]; exact iv_0 h
theorem rp_fr {σ X : Nat → Int → Int} {o : Nat} (h : rp σ o) (e28 : X (o + 28) = σ (o + 28)) (fo : ∀ k, k = 2 ∨ (41 ≤ k ∧ k ≤ 47) → X o k = σ o k) : rp X o := by
  unfold rp
  rw [fo 47 (by omega), fo 46 (by omega), fo 43 (by omega), fo 42 (by omega), fo 41 (by omega), fo 44 (by omega), fo 2 (by omega), e28]
  exact h
theorem thP_fr {σ X : Nat → Int → Int} {o : Nat} {x b c : Int} (e1 : X (o + 1) = σ (o + 1)) (e2 : X (o + 2) = σ (o + 2)) (e5 : X (o + 5) = σ (o + 5)) (e6 : X (o + 6) = σ (o + 6)) (e7 : X (o + 7) = σ (o + 7)) (f2 : X o 2 = σ o 2) : thP X o x b c ↔ thP σ o x b c := by
  have hc : ∀ y, chgC X o y = chgC σ o y := fun y => chgC_eq e2 e5 e6 y
  have hl : thL X o b c = thL σ o b c := by unfold thL; rw [f2, e2, e7]
  unfold thP
  rw [e1, hl, hc x]
  constructor
  · rintro ⟨k1, y, k2, k3⟩; exact ⟨k1, y, k2, by rw [k3, hc y]⟩
  · rintro ⟨k1, y, k2, k3⟩; exact ⟨k1, y, k2, by rw [k3, hc y]⟩
theorem STP_fr {σ X : Nat → Int → Int} {o : Nat} (h : STP σ o) (e1 : X (o + 1) = σ (o + 1)) (e2 : X (o + 2) = σ (o + 2)) (e5 : X (o + 5) = σ (o + 5)) (e6 : X (o + 6) = σ (o + 6)) (e7 : X (o + 7) = σ (o + 7)) (e28 : X (o + 28) = σ (o + 28)) (fo : ∀ k, k = 2 ∨ (41 ≤ k ∧ k ≤ 47) → X o k = σ o k) : STP X o := by
  obtain ⟨s1, s2, s3, s4, s5, s6, s7, s8⟩ := h
  refine ⟨rp_fr s1 e28 fo, ?_, ?_, ?_, ?_, ?_, ?_, ?_⟩
  · rw [fo 47 (by omega), fo 46 (by omega)]; exact s2
  · rw [fo 47 (by omega), fo 46 (by omega), fo 2 (by omega)]; exact s3
  · rw [fo 43 (by omega), fo 42 (by omega), fo 44 (by omega)]; exact s4
  · rw [fo 42 (by omega), fo 44 (by omega)]; exact s5
  · rw [fo 2 (by omega), fo 44 (by omega)]; exact s6
  · rw [e7, fo 44 (by omega)]; exact s7
  · rw [thP_fr e1 e2 e5 e6 e7 (fo 2 (by omega))]
    unfold goX at *
    rw [e28, fo 47 (by omega), fo 41 (by omega), fo 42 (by omega)]
    exact s8
theorem kpL_fr {σ X : Nat → Int → Int} {o : Nat} (e24 : X (o + 24) = σ (o + 24)) (e25 : X (o + 25) = σ (o + 25)) (e26 : X (o + 26) = σ (o + 26)) (e27 : X (o + 27) = σ (o + 27)) (f : X o 35 = σ o 35) : kpL X o = kpL σ o := by unfold kpL; rw [e24, e25, e26, e27, f]
theorem miK_fr {σ X : Nat → Int → Int} {o : Nat} (h : miK σ o) (e24 : X (o + 24) = σ (o + 24)) (e25 : X (o + 25) = σ (o + 25)) (e26 : X (o + 26) = σ (o + 26)) (e27 : X (o + 27) = σ (o + 27)) (f : X o 35 = σ o 35) : miK X o := by
  unfold miK
  rw [kpL_fr e24 e25 e26 e27 f, e24, e25, e26, e27, f]
  exact h
theorem iv_s {σ X : Nat → Int → Int} {o : Nat} {n : Int} (h : INV σ o n) (hS : miS X o) (eo : ∀ k, k ≠ 0 → k ≠ 1 → X o k = σ o k) (er : ∀ q, q ≠ o → (q < o + 8 ∨ (o + 20 ≤ q ∧ q < o + 29)) → X q = σ q) : INV X o n := by
  refine ⟨miC_eq (eo 2 (by decide) (by decide)) (er _ (by omega) (by omega)) (er _ (by omega) (by omega)) (er _ (by omega) (by omega)) (er _ (by omega) (by omega)) (er _ (by omega) (by omega)) (iv_C h), miR_eq (eo 30 (by decide) (by decide)) (er _ (by omega) (by omega)) (er _ (by omega) (by omega)) (er _ (by omega) (by omega)) (er _ (by omega) (by omega)) (iv_R h), hS, miK_fr (iv_K h) (er _ (by omega) (by omega)) (er _ (by omega) (by omega)) (er _ (by omega) (by omega)) (er _ (by omega) (by omega)) (eo 35 (by decide) (by decide)), by rw [er _ (by omega) (by omega)]; exact iv_0 h, by rw [eo 40 (by decide) (by decide)]; exact iv_40 h, fun h9 => ?_, by rw [eo 3 (by decide) (by decide)]; exact iv_n h⟩
  rw [eo 40 (by decide) (by decide)] at h9
  exact STP_fr (iv_st h h9) (er _ (by omega) (by omega)) (er _ (by omega) (by omega)) (er _ (by omega) (by omega)) (er _ (by omega) (by omega)) (er _ (by omega) (by omega)) (er _ (by omega) (by omega)) (fun k hk => eo k (by omega) (by omega))
theorem iv_r {σ X : Nat → Int → Int} {o : Nat} {n : Int} (h : INV σ o n) (hR : miR X o) (eo : ∀ k, k ≠ 0 → k ≠ 30 → X o k = σ o k) (er : ∀ q, q ≠ o → (q < o + 20 ∨ o + 23 < q) → X q = σ q) : INV X o n := by
  refine ⟨miC_eq (eo 2 (by decide) (by decide)) (er _ (by omega) (by omega)) (er _ (by omega) (by omega)) (er _ (by omega) (by omega)) (er _ (by omega) (by omega)) (er _ (by omega) (by omega)) (iv_C h), hR, miS_fr (iv_S h) (eo 3 (by decide) (by decide)) (er _ (by omega) (by omega)) (fun q h1 h2 => er q (by omega) (by omega)), miK_fr (iv_K h) (er _ (by omega) (by omega)) (er _ (by omega) (by omega)) (er _ (by omega) (by omega)) (er _ (by omega) (by omega)) (eo 35 (by decide) (by decide)), by rw [er _ (by omega) (by omega)]; exact iv_0 h, by rw [eo 40 (by decide) (by decide)]; exact iv_40 h, fun h9 => ?_, by rw [eo 3 (by decide) (by decide)]; exact iv_n h⟩
  rw [eo 40 (by decide) (by decide)] at h9
  exact STP_fr (iv_st h h9) (er _ (by omega) (by omega)) (er _ (by omega) (by omega)) (er _ (by omega) (by omega)) (er _ (by omega) (by omega)) (er _ (by omega) (by omega)) (er _ (by omega) (by omega)) (fun k hk => eo k (by omega) (by omega))
theorem iv_f {σ : Nat → Int → Int} {o : Nat} {n v : Int} (h : INV σ o n) : INV (ax_u σ o 0 v) o n := iv_s h (miS_u0 (iv_S h)) (fun k h1 _ => axu_j h1) (fun q h1 _ => axu_row h1)
theorem u_rg {σ : Nat → Int → Int} {q : Nat} {j v : Int} {p : Int → Prop} (h : ∀ i, p (σ q i)) (hv : p v) : ∀ i, p (ax_u σ q j v q i) := fun i => by
  unfold ax_u
  split
  · exact hv
  · exact h i
theorem f_rg {σ : Nat → Int → Int} {q : Nat} {lo m : Int} {g : Int → Int} {p : Int → Prop} (h : ∀ i, p (σ q i)) (hg : ∀ i, lo ≤ i → i < lo + m → p (g i)) : ∀ i, p (ax_f σ q lo m g q i) := fun i => by
  unfold ax_f
  split
  · rename_i h9; exact hg i h9.2.1 h9.2.2
  · exact h i
/-- a slot is laid: kind t, size m, its cells -/
theorem miS_cl {σ X : Nat → Int → Int} {o : Nat} {s t m : Int} {g : Int → Int} (h : miS σ o) (ht : -9 ≤ t ∧ t ≤ 2) (hm : 0 ≤ m ∧ m ≤ 24) {lo m2 : Int} (hg : ∀ i, lo ≤ i → i < lo + m2 → ax_r (g i)) (hX : X = ax_f (clI σ o s t m) (o + 33) lo m2 g) : miS X o := by
  obtain ⟨h1, h2, h3, h4, h5, h6, h7⟩ := h
  have r0 : X o 3 = σ o 3 := by rw [hX, axf_a (by omega), cl_o.1]
  have rq : ∀ q, q < o + 31 ∨ o + 33 < q → X q = σ q := fun q hq => by rw [hX, axf_row (by omega), cl_o.2.1 q hq]
  refine ⟨?_, ?_, ?_, ?_, ?_, ?_, ?_⟩
  · rw [hX, axf_row (by omega)]; unfold clI; rw [axf_row (by omega), axu_row (by omega)]; exact u_rg (p := fun v => -9 ≤ v ∧ v ≤ 2) h1 ht
  · rw [hX, axf_row (by omega)]; unfold clI; rw [axf_row (by omega)]; exact u_rg (p := fun v => 0 ≤ v ∧ v ≤ 24) (by rw [axu_row (by omega)]; exact h2) hm
  · rw [hX]; refine f_rg (p := ax_r) ?_ hg
    unfold clI
    refine f_rg (p := ax_r) ?_ (fun i _ _ => by decide)
    rw [axu_row (by omega), axu_row (by omega)]; exact h3
  · rw [rq _ (by omega)]; exact h4
  · rw [rq _ (by omega)]; exact h5
  · rw [rq _ (by omega), r0]; exact h6
  · rw [rq _ (by omega), r0]; exact h7
theorem axf_n0 {I : Nat → Int → Int} {a : Nat} {lo : Int} {g : Int → Int} : I = ax_f I a lo 0 g := axf_0.symm
theorem iv_bl {σ : Nat → Int → Int} {o : Nat} {n s t m : Int} (h : INV σ o n) : INV (bl σ o s t m).2 o n := by
  unfold bl
  split
  · split
    · rename_i h2
      split
      · rename_i h3
        refine iv_f (iv_s h (miS_cl (g := fun _ => 0) (lo := 0) (m2 := 0) (iv_S h) (by omega) ⟨h3, h2.2⟩ (fun i h1 h2 => by omega) axf_n0) (fun k _ _ => cl_o.1 k) (fun q h1 h2 => cl_o.2.1 q (by omega)))
      · exact iv_f h
    · exact iv_f h
  · exact iv_f h
theorem iv_sh {σ : Nat → Int → Int} {o : Nat} {n s c : Int} (h : INV σ o n) : INV (sh σ o s c).2 o n := by
  unfold sh
  split
  · dsimp only
    have hl := (iv_C h).2.1.2 c
    have hq := (iv_C h).2.1.1
    refine iv_s h (miS_cl (iv_S h) (by omega) (by omega) (fun i h1 h2 => ?_) rfl) (fun k _ _ => by rw [axf_a (by omega)]; exact cl_o.1 k) (fun q h1 h2 => by rw [axf_row (by omega)]; exact cl_o.2.1 q (by omega))
    have := hq (16 * c + (i - 24 * s))
    exact ⟨by omega, by omega⟩
  · exact h
theorem iv_tl {σ : Nat → Int → Int} {o : Nat} {n s c : Int} (h : INV σ o n) : INV (tl σ o s c).2 o n := by
  unfold tl
  split
  · rename_i h2
    dsimp only
    have hl := path_len (iv_C h) h2.2
    have hm := (iv_C h).1
    refine iv_s h (miS_cl (iv_S h) (by omega) (by omega) (fun i h1 h3 => ?_) rfl) (fun k _ _ => by rw [axf_a (by omega)]; exact cl_o.1 k) (fun q h1 h2 => by rw [axf_row (by omega)]; exact cl_o.2.1 q (by omega))
    have h5 := lf_mem (L := (path (σ (o + 2)) c).reverse) (i := i - 24 * s) (by omega) (by rw [List.length_reverse]; omega)
    rw [List.mem_reverse] at h5
    have h6 := path_in (iv_C h).2.2.1 c.toNat c _ (Nat.le_refl _) h2.2.2 h5
    exact ⟨by omega, by omega⟩
  · exact h
theorem iv_hd {σ : Nat → Int → Int} {o : Nat} {n s c : Int} (h : INV σ o n) : INV (hd σ o s c).2 o n := by
  unfold hd
  split
  · rename_i h2
    dsimp only
    have hm := (iv_C h).1
    have hkd := (iv_C h).2.2.2.2.2 c
    have h7 := (iv_S h).2.2.2.2.2.2 c
    have hcl := miS_cl (s := s) (g := fun _ => 0) (lo := 0) (m2 := 0) (iv_S h) (t := 2) (m := 0) (by omega) (by omega) (fun i h1 h2 => by omega) axf_n0
    have e3 : clI σ o s 2 0 o 3 = σ o 3 := cl_o.1 3
    have e4 : clI σ o s 2 0 (o + 4) = σ (o + 4) := cl_o.2.1 _ (by omega)
    refine iv_s h ?_ (fun k _ _ => by rw [axu_a (by omega), axu_a (by omega), axu_a (by omega)]; exact cl_o.1 k) (fun q h1 h2 => by rw [axu_row (by omega), axu_row (by omega), axu_row (by omega)]; exact cl_o.2.1 q (by omega))
    obtain ⟨s1, s2, s3, s4, s5, s6, s7⟩ := hcl
    refine ⟨?_, ?_, ?_, ?_, ?_, ?_, ?_⟩
    · rw [axu_row (by omega), axu_row (by omega), axu_row (by omega)]; exact s1
    · rw [axu_row (by omega), axu_row (by omega), axu_row (by omega)]; exact s2
    · rw [axu_row (by omega), axu_row (by omega), axu_row (by omega)]; exact s3
    · rw [axu_row (by omega), axu_row (by omega)]; exact u_rg (p := fun v => 0 ≤ v ∧ v < 24) s4 (by omega)
    · rw [axu_row (by omega)]; exact u_rg (p := fun v => 0 ≤ v ∧ v ≤ 2) (by rw [axu_row (by omega)]; exact s5) hkd
    · rw [axu_a (by omega), axu_a (by omega), axu_a (by omega)]
      exact u_rg (p := fun v => 0 ≤ v ∧ v ≤ clI σ o s 2 0 o 3) (by rw [axu_row (by omega), axu_row (by omega)]; exact s6) (by rw [e3]; exact h7)
    · rw [axu_a (by omega), axu_a (by omega), axu_a (by omega), axu_row (by omega), axu_row (by omega), axu_row (by omega)]; exact s7
  · exact h
theorem miS_31 {σ : Nat → Int → Int} {o : Nat} {s v : Int} (h : miS σ o) (hv : -9 ≤ v ∧ v ≤ 2) : miS (ax_u σ (o + 31) s v) o := by
  obtain ⟨h1, h2, h3, h4, h5, h6, h7⟩ := h
  refine ⟨u_rg (p := fun v => -9 ≤ v ∧ v ≤ 2) h1 hv, ?_, ?_, ?_, ?_, ?_, ?_⟩
  all_goals (try rw [axu_row (show o + 32 ≠ o + 31 by omega)]) ; (try rw [axu_row (show o + 33 ≠ o + 31 by omega)]) ; (try rw [axu_row (show o + 34 ≠ o + 31 by omega)]) ; (try rw [axu_row (show o + 35 ≠ o + 31 by omega)]) ; (try rw [axu_row (show o + 36 ≠ o + 31 by omega)]) ; (try rw [axu_row (show o + 4 ≠ o + 31 by omega)]) ; (try rw [axu_row (show o ≠ o + 31 by omega)]) ; assumption
theorem miS_33 {σ X : Nat → Int → Int} {o : Nat} (h : miS σ o) (h33 : ∀ j, ax_r (X (o + 33) j)) (hX : ∀ q, q ≠ o + 33 → X q = σ q) : miS X o := by
  obtain ⟨h1, h2, h3, h4, h5, h6, h7⟩ := h
  unfold miS
  rw [hX (o + 31) (by omega), hX (o + 32) (by omega), hX (o + 34) (by omega), hX (o + 35) (by omega), hX (o + 36) (by omega), hX (o + 4) (by omega), hX o (by omega)]
  exact ⟨h1, h2, h33, h4, h5, h6, h7⟩
theorem iv_lo {σ : Nat → Int → Int} {o : Nat} {n s : Int} (h : INV σ o n) : INV (lo σ o s).2 o n := by
  unfold lo
  split
  · exact iv_s h (miS_31 (iv_S h) (by omega)) (fun k _ _ => axu_a (by omega)) (fun q h1 h2 => axu_row (by omega))
  · exact h
theorem bm_r (v : Int) : ax_r (v.bmod 256) := by
  show -2147483648 ≤ v.bmod 256 ∧ v.bmod 256 < 2147483648
  rw [Int.bmod_def]
  split <;> omega
theorem iv_wr {σ : Nat → Int → Int} {o : Nat} {n s i v : Int} (h : INV σ o n) (rv : ax_r v) : INV (wr σ o s i v).2 o n := by
  unfold wr
  split
  · split
    · refine iv_f (iv_s h (miS_33 (iv_S h) (u_rg (p := ax_r) (iv_S h).2.2.1 ?_) (fun q hq => axu_row hq)) (fun k _ _ => axu_a (by omega)) (fun q h1 h2 => axu_row (by omega)))
      split
      · exact bm_r v
      · exact rv
    · exact iv_f h
  · exact iv_f h
theorem iv_cp {σ : Nat → Int → Int} {o : Nat} {n s i d j m : Int} (h : INV σ o n) : INV (cp σ o s i d j m).2 o n := by
  unfold cp
  split
  · split
    · exact iv_f h
    · split
      · exact iv_f h
      · split
        · exact iv_f (iv_s h (miS_33 (iv_S h) (f_rg (p := ax_r) (iv_S h).2.2.1 (fun q _ _ => (iv_S h).2.2.1 _)) (fun q hq => axf_row hq)) (fun k _ _ => axf_a (by omega)) (fun q h1 h2 => axf_row (by omega)))
        · exact iv_f h
  · exact iv_f h
theorem iv_he {σ : Nat → Int → Int} {o : Nat} {n s : Int} (h : INV σ o n) : INV (he σ o s).2 o n := by
  unfold he
  split
  · split
    · exact iv_f h
    · split
      · exact iv_f h
      · exact iv_f h
  · exact iv_f h
theorem iv_as {σ : Nat → Int → Int} {o : Nat} {n s v : Int} (h : INV σ o n) : INV (asR σ o s v).2 o n := by
  unfold asR
  split
  · split
    · split
      · exact iv_f h
      · split
        · exact iv_f h
        · exact iv_f h
    · exact iv_f h
  · exact iv_f h
theorem iv_nu {σ : Nat → Int → Int} {o : Nat} {n s i : Int} (h : INV σ o n) : INV (nu σ o s i).2 o n := by
  unfold nu
  split
  · split
    · exact iv_f (iv_f h)
    · exact iv_f (iv_f h)
  · exact iv_f h
theorem miS_o1 {σ : Nat → Int → Int} {o : Nat} {v : Int} (h : miS σ o) : miS (ax_u σ o 1 v) o := miS_fr h (axu_j (by decide)) (axu_row (by omega)) (fun q h1 h2 => axu_row (by omega))
theorem iv_te {σ : Nat → Int → Int} {o : Nat} {n c : Int} (h : INV σ o n) : INV (te σ o c).2 o n := by
  unfold te
  split
  · exact iv_s h (miS_o1 (iv_S h)) (fun k _ h2 => axu_j h2) (fun q h1 _ => axu_row h1)
  · exact h
theorem miR_rs {X : Nat → Int → Int} {o : Nat} (h30 : 0 ≤ X o 30 ∧ X o 30 ≤ 8) (h20 : ∀ j, 0 ≤ X (o + 20) j ∧ X (o + 20) j < 100) (h21 : ∀ k, 0 ≤ X (o + 21) k ∧ X (o + 21) k ≤ 51) (h22 : ∀ j, 0 ≤ X (o + 22) j ∧ X (o + 22) j < 200) (h23 : ∀ k, 0 ≤ X (o + 23) k ∧ X (o + 23) k ≤ 6) (hr : ∀ p ∈ rsL X o, rwOk p.1 p.2) : miR X o := by
  refine ⟨h30, h20, h21, h22, h23, fun k a1 a2 => ?_⟩
  have hk : ((k.toNat : Nat) : Int) = k := Int.toNat_of_nonneg a1
  have := hr (rsK X o k, rsW X o k) (by
    unfold rsL
    exact List.mem_map.mpr ⟨k.toNat, List.mem_range.mpr (by omega), by rw [hk]⟩)
  exact this
theorem rs_ok {σ : Nat → Int → Int} {o : Nat} (h : miR σ o) : ∀ p ∈ rsL σ o, rwOk p.1 p.2 := fun p hp => by
  unfold rsL at hp
  obtain ⟨k, k1, k2⟩ := List.mem_map.mp hp
  have k3 := List.mem_range.mp k1
  rw [← k2]
  exact h.2.2.2.2.2 k (by omega) (by omega)
theorem iv_fg {σ : Nat → Int → Int} {o : Nat} {n k : Int} (h : INV σ o n) : INV (fg σ o k).2 o n := by
  by_cases hk : 0 ≤ k ∧ k < σ o 30
  · have hR := iv_R h
    obtain ⟨e1, e2, e3, e4⟩ := fg_rs hR hk
    refine iv_r h (miR_rs ?_ ?_ ?_ ?_ ?_ ?_) (fun j _ h2 => e3 j h2) (fun q h1 h2 => e4 q h1 h2)
    · rw [e2]; have := hR.1; omega
    all_goals (try (unfold fg; rw [if_pos hk]; dsimp only; unfold fgF))
    · rw [axf_row (by omega)]
      refine f_rg (p := fun v => 0 ≤ v ∧ v < 100) ?_ (fun i _ _ => hR.2.1 _)
      rw [axf_row (by omega), axf_row (by omega), axu_row (by omega)]; exact hR.2.1
    · rw [axf_row (by omega), axf_row (by omega), axf_row (by omega)]
      refine f_rg (p := fun v => 0 ≤ v ∧ v ≤ 51) ?_ (fun i _ _ => hR.2.2.1 _)
      rw [axu_row (by omega)]; exact hR.2.2.1
    · refine f_rg (p := fun v => 0 ≤ v ∧ v < 200) ?_ (fun i _ _ => hR.2.2.2.1 _)
      rw [axf_row (by omega), axf_row (by omega), axf_row (by omega), axu_row (by omega)]; exact hR.2.2.2.1
    · rw [axf_row (by omega), axf_row (by omega)]
      refine f_rg (p := fun v => 0 ≤ v ∧ v ≤ 6) ?_ (fun i _ _ => hR.2.2.2.2.1 _)
      rw [axf_row (by omega), axu_row (by omega)]; exact hR.2.2.2.2.1
    · have e5 : rsL (fg σ o k).2 o = (rsL σ o).eraseIdx k.toNat := e1
      intro p hp
      have hp2 : p ∈ rsL (fg σ o k).2 o := by
        unfold fg; rw [if_pos hk]; exact hp
      rw [e5] at hp2
      exact rs_ok hR p (List.mem_of_mem_eraseIdx hp2)
  · unfold fg
    rw [if_neg hk]
    exact h
theorem iv_pt {σ : Nat → Int → Int} {o : Nat} {n b c : Int} (h : INV σ o n) : INV (ptI σ o b c) o n := by
  unfold ptI
  split
  · rename_i h2
    obtain ⟨⟨h3, h4⟩, h5⟩ := h2
    have hC := iv_C h
    have er : ∀ q, q ≠ o + 7 → ax_u σ (o + 7) b c q = σ q := fun q hq => axu_row hq
    have eo : ax_u σ (o + 7) b c o = σ o := axu_row (by omega)
    refine ⟨⟨by rw [eo]; exact hC.1, ?_, ?_, ?_, fun d d0 d1 => ?_, ?_⟩, miR_eq (by rw [eo]) (er _ (by omega)) (er _ (by omega)) (er _ (by omega)) (er _ (by omega)) (iv_R h), miS_fr (iv_S h) (by rw [eo]) (er _ (by omega)) (fun q h1 h2 => er q (by omega)), miK_fr (iv_K h) (er _ (by omega)) (er _ (by omega)) (er _ (by omega)) (er _ (by omega)) (by rw [eo]), by rw [er _ (by omega)]; exact iv_0 h, by rw [eo]; exact iv_40 h, fun h9 => ?_, by rw [eo]; exact iv_n h⟩
    · unfold lnOk; rw [er _ (by omega), er _ (by omega)]; exact hC.2.1
    · rw [er _ (by omega), eo]; exact hC.2.2.1
    · rw [er _ (by omega)]; exact hC.2.2.2.1
    · rw [eo]
      by_cases e1 : d = b
      · rw [e1, axu_s]; exact h4
      · rw [axu_j e1]; exact hC.2.2.2.2.1 d d0 d1
    · rw [er _ (by omega)]; exact hC.2.2.2.2.2
    · rw [eo] at h9; exact absurd h5 h9
  · exact h

