/-! THE LAW: its sites and the rows that its own instructions want -/
abbrev YL (nm : MethodName) : ax_Y := (nm, cL_law, 4, some .boolean)

section AXLAW
variable {G : ax_G} {f : ax_F} {Y : ax_Y} {own : String} {d mc ms : Nat} {Q : ax_P} {pc : Nat} {L st : List ax_V} {T : Nat → Nat} {N : Nat → Int} {I : Nat → Int → Int} {R : Nat → Int → Option Nat} {z k n : Nat}
theorem i32_r (v : Int32) : ax_r v.toInt := by
  have h1 := Int32.le_toInt v
  have h2 := Int32.toInt_lt v
  constructor <;> omega
theorem x_iandU (hC : axC G f Y own d mc ms) {x y : Int} (hd : decode Y.2.1 pc = .ok (.iand, 1)) (kk : ∀ v, ax_r v → axX G f mc ms Q (pc + 1) L (vI v :: st) T N I R z k n) : axX G f mc ms Q pc L (vI y :: vI x :: st) T N I R z k n :=
  axX.go (fun H locs ls cells slots Q0 hL k => lv_iand hC.1 hC.2.1 hd (by
    have h9 := k ls hL
    rw [List.map_cons, axv_I, Int32.ofInt_toInt] at h9
    exact h9)) (kk (Int32.ofInt x &&& Int32.ofInt y).toInt (i32_r _))
theorem x_lcmp_same (hC : axC G f Y own d mc ms) {x y : Int} (hd : decode Y.2.1 pc = .ok (.lcmp, 1)) (hxy : x = y) (kk : axX G f mc ms Q (pc + 1) L (vI 0 :: st) T N I R z k n) : axX G f mc ms Q pc L (vL y :: vL x :: st) T N I R z k n :=
  axX.go (fun H locs ls cells slots Q0 hL k => W.lcmp hC.1 hC.2.1 hd (by
    have h8 : lg_cmp (Int64.ofInt x) (Int64.ofInt y) = Int32.ofInt 0 := by rw [hxy, ← ax_0]; simp [lg_cmp]
    rw [h8]
    exact k ls hL)) kk
theorem x_sald (hC : axC G f Y own d mc ms) {b Ls : Nat} {xs : Nat → Int32} (hX : va_X b Ls xs f.2.2.2.1 G.2.2.2.2.2) (hb : b < G.2.2.2.1) {j : Int} (hd : decode Y.2.1 pc = .ok (.iaload, 1)) (h0 : 0 ≤ j) (h1 : j < Ls) (h2 : Ls ≤ 3072) (kk : axX G f mc ms Q (pc + 1) L (vI (xs j.toNat).toInt :: st) T N I R z k n) : axX G f mc ms Q pc L (vI j :: vR b :: st) T N I R z k n := by
  intro H locs ls hH hl hL hk hn
  obtain ⟨cell, c1, c2, c3, c4, c5⟩ := hX
  have hcell : H[b]? = some cell := by rw [hH.2.2.2.1 b hb]; exact c1
  have hr : ax_r j := ⟨by omega, by omega⟩
  have hcl := ax_clamp hr
  refine W.iald (v := axv (vI (xs j.toNat).toInt)) (j := Int32.ofInt j) hC.1 hC.2.1 hcell c2 c3 ?_ ?_ rfl rfl hd (kk H locs ls hH hl hL hk hn)
  · rw [c4, hcl]
    rintro (h | h)
    · rw [ax_0, ax_lt hr ax_r0] at h; omega
    · omega
  · rw [hcl, c5 j.toNat (by omega), axv_I, Int32.ofInt_toInt]
theorem x_slen (hC : axC G f Y own d mc ms) {b Ls : Nat} {xs : Nat → Int32} (hX : va_X b Ls xs f.2.2.2.1 G.2.2.2.2.2) (hb : b < G.2.2.2.1) (hd : decode Y.2.1 pc = .ok (.arraylength, 1)) (kk : axX G f mc ms Q (pc + 1) L (vI (Ls : Int) :: st) T N I R z k n) : axX G f mc ms Q pc L (vR b :: st) T N I R z k n := by
  intro H locs ls hH hl hL hk hn
  obtain ⟨cell, c1, c2, c3, c4, c5⟩ := hX
  have hcell : H[b]? = some cell := by rw [hH.2.2.2.1 b hb]; exact c1
  exact W.alen (n := Int32.ofInt (Ls : Int)) (ty := .int) hC.1 hC.2.1 hcell c2 (by rw [c4, Int32.ofInt_eq_ofNat]) rfl rfl hd (kk H locs ls hH hl hL hk hn)
end AXLAW

