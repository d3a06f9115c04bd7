/-! merging -/
abbrev Gp : Type := Int × Int × Int × Int × Int × Int
def gapsL (p1 p2 : Int → Int) (na nb nt : Int) : Nat → Int → Int → Int → Int → List Gp
  | 0, _, b, o, t => [(b, na, o, nb, t, nt)]
  | n + 1, x, b, o, t => if p1 x = -9 ∨ p2 x = -9 then gapsL p1 p2 na nb nt n (x + 1) b o t else (b, x, o, p1 x, t, p2 x) :: gapsL p1 p2 na nb nt n (x + 1) (x + 1) (p1 x + 1) (p2 x + 1)
def gapG (rs : List (List Int × List Int)) (a b t : Int → Int) (g : Gp) : List Int × Int × Int := gapV rs (seg a g.1 g.2.1) (seg b g.2.2.1 g.2.2.2.1) (seg t g.2.2.2.2.1 g.2.2.2.2.2)
def mgStep (rs : List (List Int × List Int)) (a b t : Int → Int) (na : Int) (s : List Int × Int × List Gp) (g : Gp) : List Int × Int × List Gp := (s.1 ++ (gapG rs a b t g).1 ++ (if g.2.1 < na then [a g.2.1] else []), s.2.1 + (gapG rs a b t g).2.1, if (gapG rs a b t g).2.2 = 1 then s.2.2 ++ [g] else s.2.2)
/-- what a merging gives: the result, how many conflicts, the open ones -/
def mrg (rs : List (List Int × List Int)) (a : Int → Int) (na : Int) (b : Int → Int) (nb : Int) (t : Int → Int) (nt : Int) : List Int × Int × List Gp := (gapsL (mtP a b na nb) (mtP a t na nt) na nb nt na.toNat 0 0 0 0).foldl (mgStep rs a b t na) ([], 0, [])
def gpM (J : Nat → Int → Int) (o : Nat) (l : List Gp) : Prop := ∀ (k : Nat) (q : Gp), l[k]? = some q → J (o + 16) (6 * (k : Int)) = q.1 ∧ J (o + 16) (6 * (k : Int) + 1) = q.2.1 ∧ J (o + 16) (6 * (k : Int) + 2) = q.2.2.1 ∧ J (o + 16) (6 * (k : Int) + 3) = q.2.2.2.1 ∧ J (o + 16) (6 * (k : Int) + 4) = q.2.2.2.2.1 ∧ J (o + 16) (6 * (k : Int) + 5) = q.2.2.2.2.2
def mgM (J : Nat → Int → Int) (o : Nat) (s : List Int × Int × List Gp) : Prop := rM J o s.1 ∧ J o 22 = s.2.1 ∧ J o 23 = s.2.2.length ∧ gpM J o s.2.2
def gOk (g : Gp) : Prop := (0 ≤ g.1 ∧ g.1 ≤ g.2.1 ∧ g.2.1 ≤ 16) ∧ (0 ≤ g.2.2.1 ∧ g.2.2.1 ≤ g.2.2.2.1 ∧ g.2.2.2.1 ≤ 16) ∧ 0 ≤ g.2.2.2.2.1 ∧ g.2.2.2.2.1 ≤ g.2.2.2.2.2 ∧ g.2.2.2.2.2 ≤ 16
def rsSm (rs : List (List Int × List Int)) : Prop := ∀ p ∈ rs, p.2.length ≤ 6 ∧ ∀ v ∈ p.2, 0 ≤ v ∧ v < 200
theorem rfind_mem {rs : List (List Int × List Int)} {sh : List Int} {p : List Int × List Int} (h : rfind rs sh = some p) : p ∈ rs := List.mem_of_find?_eq_some h
theorem gapV_l {rs : List (List Int × List Int)} (hrs : rsSm rs) (B O Th : List Int) : (gapV rs B O Th).1.length ≤ O.length + Th.length + 6 := by
  unfold gapV gapC
  split
  · simp; omega
  · split
    · simp; omega
    · split
      · have := (hrs _ (rfind_mem (by assumption))).1
        simp [rsv]; omega
      · simp
theorem gapV_o (rs : List (List Int × List Int)) (B O Th : List Int) : (gapV rs B O Th).2.2 = 0 ∨ (gapV rs B O Th).2.2 = 1 := by
  unfold gapV gapC
  split
  · simp
  · split
    · simp
    · split <;> simp
theorem gapV_c (rs : List (List Int × List Int)) (B O Th : List Int) : 0 ≤ (gapV rs B O Th).2.1 ∧ (gapV rs B O Th).2.1 ≤ 1 := by
  unfold gapV gapC
  split
  · simp
  · split
    · simp
    · split <;> simp
theorem gapV_ln {rs : List (List Int × List Int)} (hrs : rsSm rs) {B O Th : List Int} (hB : isLn B) (hO : isLn O) (hT : isLn Th) : isLn (gapV rs B O Th).1 := by
  unfold gapV gapC
  split
  · exact hT
  · split
    · exact hO
    · split
      · have h6 := (hrs _ (rfind_mem (by assumption))).2
        have hn : isLn (cShape B O Th).2 := by
          unfold cShape
          split
          · exact shpSeq_ln hB hO hT
          · exact shpSeq_ln hB hT hO
        intro v hv
        simp only [rsv, List.mem_map] at hv
        obtain ⟨w, hw, rfl⟩ := hv
        have := h6 w hw
        split
        · rw [List.getD_eq_getElem?_getD]
          cases hg : (cShape B O Th).2[w.toNat]? with
          | none => simp
          | some u => exact hn u (List.mem_of_getElem? hg)
        · omega
      · exact isLn.nil
theorem rsSm_of {I : Nat → Int → Int} {o : Nat} (h : miR I o) : rsSm (rsL I o) := by
  intro p hp
  simp only [rsL, List.mem_map, List.mem_range] at hp
  obtain ⟨k, hk, rfl⟩ := hp
  have h6 := h.2.2.2.2.1 k
  refine ⟨by simp only [rsW, seg_len]; omega, fun v hv => ?_⟩
  simp only [rsW] at hv
  obtain ⟨j, -, -, rfl⟩ := seg_mem.mp hv
  exact h.2.2.2.1 j

set_option maxHeartbeats 4000000 in
set_option maxRecDepth 100000 in
theorem m_merges {G : ax_G} {T : Nat → Nat} {N : Nat → Int} {I : Nat → Int → Int} {R : Nat → Int → Option Nat} {z o : Nat} (M : axMo T N R o) {ba ou th na nb nt : Int} (hl : lnOk I o) (hR : miR I o) (hba : 0 ≤ ba ∧ ba < 26) (hou : 0 ≤ ou ∧ ou < 26) (hth : 0 ≤ th ∧ th < 26) (hna : I (o + 6) ba = na) (hnb : I (o + 6) ou = nb) (hnt : I (o + 6) th = nt) : axEx G YX12_merges 5 [vR o, vI ba, vI ou, vI th] T N I R z (fun r1 I1 => r1 = none ∧ scr I I1 o ∧ mgM I1 o (mrg (rsL I o) (rwI I o ba) na (rwI I o ou) nb (rwI I o th) nt) ∧ (mrg (rsL I o) (rwI I o ba) na (rwI I o ou) nb (rwI I o th) nt).1.length ≤ 160 ∧ isLn (mrg (rsL I o) (rwI I o ba) na (rwI I o ou) nb (rwI I o th) nt).1 ∧ (mrg (rsL I o) (rwI I o ba) na (rwI I o ou) nb (rwI I o th) nt).2.2.length ≤ 17 ∧ (∀ g ∈ (mrg (rsL I o) (rwI I o ba) na (rwI I o ou) nb (rwI I o th) nt).2.2, gOk g)) := by

  refine ax_enter (by decide) (Nat.le_of_ble_eq_true rfl) (ax_cat rfl) (fun f hC => ?_)
  show axX G f 0 0 _ 0 [vR o, vI ba, vI ou, vI th, vU, vU, vU, vU, vU, vU] [] T N I R z 0 0
  have la := hl.2 ba
  have lb := hl.2 ou
  have lt := hl.2 th
  rw [hna] at la
  rw [hnb] at lb
  rw [hnt] at lt
  have hrs := rsSm_of hR
  obtain ⟨full, hfull⟩ : ∃ l, l = (mrg (rsL I o) (rwI I o ba) na (rwI I o ou) nb (rwI I o th) nt) := ⟨_, rfl⟩
  rw [← hfull]
  have lnA : ∀ i j, isLn (seg (rwI I o ba) i j) := fun i j => seg_isLn (fun k => hl.1 _) i j
  have lnB : ∀ i j, isLn (seg (rwI I o ou) i j) := fun i j => seg_isLn (fun k => hl.1 _) i j
  have lnT : ∀ i j, isLn (seg (rwI I o th) i j) := fun i j => seg_isLn (fun k => hl.1 _) i j
  have main : ∀ (P0 : Nat → Int → Int), (∀ i, 0 ≤ i → i < na → P0 (o + 9) i = (mtP (rwI I o ba) (rwI I o ou) na nb) i) → (∀ i, 0 ≤ i → i < na → P0 (o + 9) (16 + i) = (mtP (rwI I o ba) (rwI I o th) na nt) i) → scr I P0 o → ∀ (n : Nat) (x b p t : Int) (s : List Int × Int × List Gp) (J : Nat → Int → Int) (c8 c9 : ax_V), (na - x).toNat = n → 0 ≤ b → b ≤ x → x ≤ na → 0 ≤ p → p ≤ (mtS (rwI I o ba) (rwI I o ou) na nb x.toNat).2 → 0 ≤ t → t ≤ (mtS (rwI I o ba) (rwI I o th) na nt x.toNat).2 → scr I J o → J (o + 9) = P0 (o + 9) → mgM J o s → s.1.length ≤ p + t + 7 * b → isLn s.1 → s.2.2.length ≤ b → (∀ g ∈ s.2.2, gOk g) → full = (gapsL (mtP (rwI I o ba) (rwI I o ou) na nb) (mtP (rwI I o ba) (rwI I o th) na nt) na nb nt n x b p t).foldl (mgStep (rsL I o) (rwI I o ba) (rwI I o ou) (rwI I o th) na) s → axX G f 0 0 (fun r1 T1 N1 I1 R1 z1 => (r1 = none ∧ scr I I1 o ∧ mgM I1 o full ∧ full.1.length ≤ 160 ∧ isLn full.1 ∧ full.2.2.length ≤ 17 ∧ (∀ g ∈ full.2.2, gOk g)) ∧ T1 = T ∧ N1 = N ∧ R1 = R ∧ z1 = z) 41 [vR o, vI ba, vI ou, vI th, vI b, vI p, vI t, vI x, c8, c9] [] T N J R z 0 0 := by
    intro P0 hp1 hp2 hP0 n
    induction n with
    | zero =>
      intro x b p t s J c8 c9 hn b0 b1 x1 p0 pm t0 tm hJ hpr hM hlen hln hop hgo hfu
      have fb := mtS_f (rwI I o ba) (rwI I o ou) (na := na) (nb := nb) (by omega) x.toNat
      have ft := mtS_f (rwI I o ba) (rwI I o th) (na := na) (nb := nt) (by omega) x.toNat
      have hxn : x = na := by omega
      obtain ⟨hM1, hM2, hM3, hM4⟩ := hM
      have z6 : J (o + 6) = I (o + 6) := hJ.1 (o + 6) (by omega) (by omega)
      have z5 : J (o + 5) = I (o + 5) := hJ.1 (o + 5) (by omega) (by omega)
      have hsa : J (o + 6) ba = na := by rw [z6]; exact hna
      have hsb : J (o + 6) ou = nb := by rw [z6]; exact hnb
      have hst : J (o + 6) th = nt := by rw [z6]; exact hnt
      have call : ∀ (K : Nat → Int → Int), (∀ q, q ≠ o + 16 → K q = J q) → (∀ j, j < 6 * (J o 23) ∨ 6 * (J o 23) + 6 ≤ j → K (o + 16) j = J (o + 16) j) → K (o + 16) (6 * (J o 23)) = b → K (o + 16) (6 * (J o 23) + 1) = x → K (o + 16) (6 * (J o 23) + 2) = p → K (o + 16) (6 * (J o 23) + 3) = nb → K (o + 16) (6 * (J o 23) + 4) = t → K (o + 16) (6 * (J o 23) + 5) = nt → axX G f 0 0 (fun r1 T1 N1 I1 R1 z1 => (r1 = none ∧ scr I I1 o ∧ mgM I1 o full ∧ full.1.length ≤ 160 ∧ isLn full.1 ∧ full.2.2.length ≤ 17 ∧ (∀ g ∈ full.2.2, gOk g)) ∧ T1 = T ∧ N1 = N ∧ R1 = R ∧ z1 = z) 216 [vR o, vI ba, vI ou, vI th, vI b, vI p, vI t, vI x, vI 1, vI (6 * (J o 23))] [] T N K R z 0 0 := by
        intro K hK hKg k0 k1 k2 k3 k4 k5
        have hlK : lnOk K o := lnOk_eq (by rw [hK _ (by omega)]; exact z5) (by rw [hK _ (by omega)]; exact z6) hl
        have rwK : ∀ c, rwI K o c = rwI I o c := fun c => rwI_eq (by rw [hK _ (by omega)]; exact z5) c
        have z30 : (K o 30) = (I o 30) := by rw [hK o (by omega)]; exact hJ.2 30 (by unfold sfd; omega)
        have z20 : K (o + 20) = I (o + 20) := by rw [hK _ (by omega)]; exact hJ.1 (o + 20) (by omega) (by omega)
        have z21 : K (o + 21) = I (o + 21) := by rw [hK _ (by omega)]; exact hJ.1 (o + 21) (by omega) (by omega)
        have z22 : K (o + 22) = I (o + 22) := by rw [hK _ (by omega)]; exact hJ.1 (o + 22) (by omega) (by omega)
        have z23 : K (o + 23) = I (o + 23) := by rw [hK _ (by omega)]; exact hJ.1 (o + 23) (by omega) (by omega)
        have hRK := miR_eq z30 z20 z21 z22 z23 hR
        have rsKe := rsL_eq z30 z20 z21 z22 z23
        have hoK : K o = J o := hK o (by omega)
        have rK : rM K o s.1 := ⟨by rw [hoK]; exact hM1.1, by rw [hK _ (by omega)]; exact hM1.2⟩
        refine x_aload_n (pc := 216) hC dX12_merges_216 rfl ?_
        refine x_iload_n (pc := 217) hC dX12_merges_217 rfl ?_
        refine x_iload_n (pc := 218) hC dX12_merges_218 rfl ?_
        refine x_iload_n (pc := 219) hC dX12_merges_219 rfl ?_
        refine x_mVx (pc := 220) hC cv_X12_256 dX12_merges_220 (m_mergesGap (g0 := b) (g1 := x) (g2 := p) (g3 := nb) (g4 := t) (g5 := nt) M hlK hRK rK hba hou hth (by rw [hoK]; omega) (by rw [hoK]; exact k0) (by rw [hoK]; exact k1) (by rw [hoK]; exact k2) (by rw [hoK]; exact k3) (by rw [hoK]; exact k4) (by rw [hoK]; exact k5) (by omega) (by omega) (by omega) (by omega)) M.1 rfl (by decide) rfl rfl (Nat.le_of_ble_eq_true rfl) ?_
        rintro v A ⟨rfl, hA, hAM, hAc, hAo⟩
        dsimp only [Option.toList, List.nil_append]
        rw [rsKe, rwK, rwK, rwK] at hAM hAc hAo
        have gl := gapV_l hrs (seg (rwI I o ba) b x) (seg (rwI I o ou) p nb) (seg (rwI I o th) t nt)
        have go_ := gapV_o (rsL I o) (seg (rwI I o ba) b x) (seg (rwI I o ou) p nb) (seg (rwI I o th) t nt)
        have gn := gapV_ln hrs (lnA b x) (lnB p nb) (lnT t nt)
        simp only [seg_len] at gl
        obtain ⟨gv, hgv⟩ : ∃ v, v = gapV (rsL I o) (seg (rwI I o ba) b x) (seg (rwI I o ou) p nb) (seg (rwI I o th) t nt) := ⟨_, rfl⟩
        rw [← hgv] at hAM hAc hAo gl go_ gn
        refine x_aload_n (pc := 223) hC dX12_merges_223 rfl ?_
        refine x_iload_n (pc := 224) hC dX12_merges_224 rfl ?_
        refine x_iload (pc := 225) hC dX12_merges_225 rfl ?_
        refine x_iload (pc := 227) hC dX12_merges_227 rfl ?_
        refine x_if_eq (pc := 229) hC 237 dX12_merges_229 (by decide) (by decide) (fun b => absurd b (by decide)) (fun _ => ?_)
        refine x_iload (pc := 232) hC dX12_merges_232 rfl ?_
        refine x_goto (pc := 234) hC 241 dX12_merges_234 (by decide) ?_
        refine x_mVx (pc := 241) hC cv_X12_250 dX12_merges_241 (m_takes M hAM hba (by omega) (Int.le_refl _) (by omega) (by simp only [List.length_append]; omega)) M.1 rfl (by decide) rfl rfl (Nat.le_of_ble_eq_true rfl) ?_
        rintro v C ⟨rfl, hC2, hCM⟩
        dsimp only [Option.toList, List.nil_append]
        rw [seg_nil (Int.le_refl _), List.append_nil] at hCM
        have hs2 : (mgStep (rsL I o) (rwI I o ba) (rwI I o ou) (rwI I o th) na) s (b, na, p, nb, t, nt) = (s.1 ++ gv.1, s.2.1 + gv.2.1, if gv.2.2 = 1 then s.2.2 ++ [(b, na, p, nb, t, nt)] else s.2.2) := by
          have hg : gapG (rsL I o) (rwI I o ba) (rwI I o ou) (rwI I o th) (b, na, p, nb, t, nt) = gv := by rw [hgv, hxn]; rfl
          simp only [mgStep]
          rw [hg, if_neg (Int.lt_irrefl _), List.append_nil]
        simp only [gapsL, List.foldl_cons, List.foldl_nil] at hfu
        rw [hs2] at hfu
        have sC : scr I C o := by
          refine hJ.tr (scr.tr (J := K) ⟨fun q a c => hK q (by omega), fun k _ => by rw [hoK]⟩ (scr.tr hA.scr hC2.scr))
        have oC : (C o 23) = (J o 23) + gv.2.2 := by rw [hC2.2 23 (by omega), hAo, hoK]
        have gC : C (o + 16) = K (o + 16) := by rw [hC2.1 _ (by omega) (by omega), hA.1 _ (by omega) (by omega)]
        have szC : C (o + 6) ba = na := by rw [sC.1 _ (by omega) (by omega)]; exact hna
        have fin : mgM C o full ∧ full.1.length ≤ 160 ∧ isLn full.1 ∧ full.2.2.length ≤ 17 ∧ ∀ g ∈ full.2.2, gOk g := by
          rw [hfu]
          refine ⟨⟨hCM, ?_, ?_, ?_⟩, by simp only [List.length_append]; omega, hln.app gn, ?_, ?_⟩
          · rw [hC2.2 22 (by omega), hAc, hoK, hM2]
          · rw [oC, hM3]
            dsimp only
            rcases go_ with g0 | g0 <;> rw [g0]
            · simp
            · simp
          · dsimp only
            intro k q hk
            rw [gC]
            rcases go_ with g0 | g0 <;> rw [g0] at hk
            · rw [if_neg (by decide)] at hk
              have hkl := (List.getElem?_eq_some_iff.mp hk).1
              have := hM4 k q hk
              rw [hKg _ (by omega), hKg _ (by omega), hKg _ (by omega), hKg _ (by omega), hKg _ (by omega), hKg _ (by omega)]
              exact this
            · rw [if_pos rfl] at hk
              by_cases hkl : k < s.2.2.length
              · rw [List.getElem?_append_left hkl] at hk
                have := hM4 k q hk
                rw [hKg _ (by omega), hKg _ (by omega), hKg _ (by omega), hKg _ (by omega), hKg _ (by omega), hKg _ (by omega)]
                exact this
              · rw [List.getElem?_append_right (by omega)] at hk
                have hk1 := (List.getElem?_eq_some_iff.mp hk).1
                simp at hk1
                have hke : k = s.2.2.length := by omega
                rw [hke, Nat.sub_self] at hk
                cases hk
                rw [hke, ← hM3]
                exact ⟨k0, by rw [k1, hxn], k2, k3, k4, k5⟩
          · dsimp only
            split <;> (try simp only [List.length_append, List.length_cons, List.length_nil]) <;> omega
          · dsimp only
            intro g hg
            split at hg
            · rcases List.mem_append.mp hg with hg | hg
              · exact hgo g hg
              · simp at hg
                subst hg
                exact ⟨⟨by dsimp only; omega, by dsimp only; omega, by dsimp only; omega⟩, ⟨by dsimp only; omega, by dsimp only; omega, by dsimp only; omega⟩, by dsimp only; omega, by dsimp only; omega, by dsimp only; omega⟩
            · exact hgo g hg
        refine x_iload (pc := 244) hC dX12_merges_244 rfl ?_
        refine x_iconst (pc := 246) hC dX12_merges_246 ?_
        refine x_iadd (pc := 247) hC dX12_merges_247 ?_
        refine x_istore (pc := 248) hC dX12_merges_248 (Nat.le_of_ble_eq_true rfl) ?_
        dsimp only [List.set]
        refine x_iload (pc := 250) hC dX12_merges_250 rfl ?_
        refine x_if_eq (pc := 252) hC 260 dX12_merges_252 (by decide) (by decide) (fun b => absurd b (by decide)) (fun _ => ?_)
        refine x_iload (pc := 255) hC dX12_merges_255 rfl ?_
        refine x_goto (pc := 257) hC 269 dX12_merges_257 (by decide) ?_
        refine x_istore (pc := 269) hC dX12_merges_269 (Nat.le_of_ble_eq_true rfl) ?_
        dsimp only [List.set]
        refine x_iload (pc := 271) hC dX12_merges_271 rfl ?_
        refine x_if_eq (pc := 273) hC 281 dX12_merges_273 (by decide) (by decide) (fun b => absurd b (by decide)) (fun _ => ?_)
        refine x_iload (pc := 276) hC dX12_merges_276 rfl ?_
        refine x_goto (pc := 278) hC 293 dX12_merges_278 (by decide) ?_
        refine x_istore (pc := 293) hC dX12_merges_293 (Nat.le_of_ble_eq_true rfl) ?_
        dsimp only [List.set]
        refine x_iinc (pc := 295) hC dX12_merges_295 rfl ?_
        dsimp only [List.set]
        refine x_goto (pc := 298) hC 41 dX12_merges_298 (by decide) ?_
        refine x_iload (pc := 41) hC dX12_merges_41 rfl ?_
        refine x_aload_n (pc := 43) hC dX12_merges_43 rfl ?_
        refine x_getO (pc := 44) hC gf_X12_25 dX12_merges_44 M.1 (mo_size M).1 ?_
        refine x_iload_n (pc := 47) hC dX12_merges_47 rfl ?_
        refine x_iald (pc := 48) hC dX12_merges_48 (mo_size M).2.1 (by omega) (by rw [(mo_size M).2.2]; omega) ?_
        refine x_icmp_gt (pc := 49) hC 301 dX12_merges_49 (by decide) (by omega) (by omega) (fun b49 => ?_) (fun b49 => ?_)
        · refine x_vret (pc := 301) hC rfl dX12_merges_301 ?_
          exact ⟨⟨rfl, sC, fin⟩, rfl, rfl, rfl, rfl⟩
        · omega
      refine x_iload (pc := 41) hC dX12_merges_41 rfl ?_
      refine x_aload_n (pc := 43) hC dX12_merges_43 rfl ?_
      refine x_getO (pc := 44) hC gf_X12_25 dX12_merges_44 M.1 (mo_size M).1 ?_
      refine x_iload_n (pc := 47) hC dX12_merges_47 rfl ?_
      refine x_iald (pc := 48) hC dX12_merges_48 (mo_size M).2.1 (by omega) (by rw [(mo_size M).2.2]; omega) ?_
      refine x_icmp_gt (pc := 49) hC 301 dX12_merges_49 (by decide) (by omega) (by omega) (fun b49 => ?_) (fun b49 => ?_)
      · omega
      · refine x_iload (pc := 52) hC dX12_merges_52 rfl ?_
        refine x_aload_n (pc := 54) hC dX12_merges_54 rfl ?_
        refine x_getO (pc := 55) hC gf_X12_25 dX12_merges_55 M.1 (mo_size M).1 ?_
        refine x_iload_n (pc := 58) hC dX12_merges_58 rfl ?_
        refine x_iald (pc := 59) hC dX12_merges_59 (mo_size M).2.1 (by omega) (by rw [(mo_size M).2.2]; omega) ?_
        refine x_icmp_ne (pc := 60) hC 67 dX12_merges_60 (by decide) (by omega) (by omega) (fun b60 => ?_) (fun b60 => ?_)
        · omega
        · refine x_iconst (pc := 63) hC dX12_merges_63 ?_
          refine x_goto (pc := 64) hC 68 dX12_merges_64 (by decide) ?_
          refine x_istore (pc := 68) hC dX12_merges_68 (Nat.le_of_ble_eq_true rfl) ?_
          dsimp only [List.set]
          refine x_iload (pc := 70) hC dX12_merges_70 rfl ?_
          refine x_if_ne (pc := 72) hC 102 dX12_merges_72 (by decide) (by decide) (fun _ => ?_) (fun b => absurd b (by decide))
          refine x_bipush (pc := 102) hC dX12_merges_102 (by decide) ?_
          refine x_aload_n (pc := 104) hC dX12_merges_104 rfl ?_
          refine x_getI (pc := 105) hC gf_X12_236 dX12_merges_105 M.1 ?_
          refine x_imul (pc := 108) hC dX12_merges_108 ?_
          refine x_istore (pc := 109) hC dX12_merges_109 (Nat.le_of_ble_eq_true rfl) ?_
          dsimp only [List.set]
          refine x_aload_n (pc := 111) hC dX12_merges_111 rfl ?_
          refine x_getO (pc := 112) hC gf_X12_55 dX12_merges_112 M.1 (mo_gapOf M).1 ?_
          refine x_iload (pc := 115) hC dX12_merges_115 rfl ?_
          refine x_iload (pc := 117) hC dX12_merges_117 rfl ?_
          refine x_iast (pc := 119) hC dX12_merges_119 (mo_gapOf M).2.1 (by omega) (by rw [(mo_gapOf M).2.2]; omega) ?_
          refine x_aload_n (pc := 120) hC dX12_merges_120 rfl ?_
          refine x_getO (pc := 121) hC gf_X12_55 dX12_merges_121 M.1 (mo_gapOf M).1 ?_
          refine x_iload (pc := 124) hC dX12_merges_124 rfl ?_
          refine x_iconst (pc := 126) hC dX12_merges_126 ?_
          refine x_iadd (pc := 127) hC dX12_merges_127 ?_
          refine x_iload (pc := 128) hC dX12_merges_128 rfl ?_
          refine x_iast (pc := 130) hC dX12_merges_130 (mo_gapOf M).2.1 (by omega) (by rw [(mo_gapOf M).2.2]; omega) ?_
          refine x_aload_n (pc := 131) hC dX12_merges_131 rfl ?_
          refine x_getO (pc := 132) hC gf_X12_55 dX12_merges_132 M.1 (mo_gapOf M).1 ?_
          refine x_iload (pc := 135) hC dX12_merges_135 rfl ?_
          refine x_iconst (pc := 137) hC dX12_merges_137 ?_
          refine x_iadd (pc := 138) hC dX12_merges_138 ?_
          refine x_iload (pc := 139) hC dX12_merges_139 rfl ?_
          refine x_iast (pc := 141) hC dX12_merges_141 (mo_gapOf M).2.1 (by omega) (by rw [(mo_gapOf M).2.2]; omega) ?_
          refine x_aload_n (pc := 142) hC dX12_merges_142 rfl ?_
          refine x_getO (pc := 143) hC gf_X12_55 dX12_merges_143 M.1 (mo_gapOf M).1 ?_
          refine x_iload (pc := 146) hC dX12_merges_146 rfl ?_
          refine x_iconst (pc := 148) hC dX12_merges_148 ?_
          refine x_iadd (pc := 149) hC dX12_merges_149 ?_
          refine x_iload (pc := 150) hC dX12_merges_150 rfl ?_
          refine x_if_eq (pc := 152) hC 164 dX12_merges_152 (by decide) (by decide) (fun b => absurd b (by decide)) (fun _ => ?_)
          refine x_aload_n (pc := 155) hC dX12_merges_155 rfl ?_
          refine x_getO (pc := 156) hC gf_X12_25 dX12_merges_156 M.1 (mo_size M).1 ?_
          refine x_iload_n (pc := 159) hC dX12_merges_159 rfl ?_
          refine x_iald (pc := 160) hC dX12_merges_160 (mo_size M).2.1 (by omega) (by rw [(mo_size M).2.2]; omega) ?_
          refine x_goto (pc := 161) hC 171 dX12_merges_161 (by decide) ?_
          simp only [axu_row (show o + 6 ≠ o + 16 by omega)]
          rw [hsb]
          refine x_iast (pc := 171) hC dX12_merges_171 (mo_gapOf M).2.1 (by omega) (by rw [(mo_gapOf M).2.2]; omega) ?_
          refine x_aload_n (pc := 172) hC dX12_merges_172 rfl ?_
          refine x_getO (pc := 173) hC gf_X12_55 dX12_merges_173 M.1 (mo_gapOf M).1 ?_
          refine x_iload (pc := 176) hC dX12_merges_176 rfl ?_
          refine x_iconst (pc := 178) hC dX12_merges_178 ?_
          refine x_iadd (pc := 179) hC dX12_merges_179 ?_
          refine x_iload (pc := 180) hC dX12_merges_180 rfl ?_
          refine x_iast (pc := 182) hC dX12_merges_182 (mo_gapOf M).2.1 (by omega) (by rw [(mo_gapOf M).2.2]; omega) ?_
          refine x_aload_n (pc := 183) hC dX12_merges_183 rfl ?_
          refine x_getO (pc := 184) hC gf_X12_55 dX12_merges_184 M.1 (mo_gapOf M).1 ?_
          refine x_iload (pc := 187) hC dX12_merges_187 rfl ?_
          refine x_iconst (pc := 189) hC dX12_merges_189 ?_
          refine x_iadd (pc := 190) hC dX12_merges_190 ?_
          refine x_iload (pc := 191) hC dX12_merges_191 rfl ?_
          refine x_if_eq (pc := 193) hC 205 dX12_merges_193 (by decide) (by decide) (fun b => absurd b (by decide)) (fun _ => ?_)
          refine x_aload_n (pc := 196) hC dX12_merges_196 rfl ?_
          refine x_getO (pc := 197) hC gf_X12_25 dX12_merges_197 M.1 (mo_size M).1 ?_
          refine x_iload_n (pc := 200) hC dX12_merges_200 rfl ?_
          refine x_iald (pc := 201) hC dX12_merges_201 (mo_size M).2.1 (by omega) (by rw [(mo_size M).2.2]; omega) ?_
          refine x_goto (pc := 202) hC 215 dX12_merges_202 (by decide) ?_
          simp only [axu_row (show o + 6 ≠ o + 16 by omega)]
          rw [hst]
          refine x_iast (pc := 215) hC dX12_merges_215 (mo_gapOf M).2.1 (by omega) (by rw [(mo_gapOf M).2.2]; omega) ?_
          refine call _ (fun q a => ?_) (fun j a => ?_) ?_ ?_ ?_ ?_ ?_ ?_
          · rw [axu_row a, axu_row a, axu_row a, axu_row a, axu_row a, axu_row a]
          · rw [axu_j (by omega), axu_j (by omega), axu_j (by omega), axu_j (by omega), axu_j (by omega), axu_j (by omega)]
          · rw [axu_j (by omega), axu_j (by omega), axu_j (by omega), axu_j (by omega), axu_j (by omega), axu_s]
          · rw [axu_j (by omega), axu_j (by omega), axu_j (by omega), axu_j (by omega), axu_s]
          · rw [axu_j (by omega), axu_j (by omega), axu_j (by omega), axu_s]
          · rw [axu_j (by omega), axu_j (by omega), axu_s]
          · rw [axu_j (by omega), axu_s]
          · exact axu_s
    | succ n ih =>
      intro x b p t s J c8 c9 hn b0 b1 x1 p0 pm t0 tm hJ hpr hM hlen hln hop hgo hfu
      have fb := mtS_f (rwI I o ba) (rwI I o ou) (na := na) (nb := nb) (by omega) x.toNat
      have ft := mtS_f (rwI I o ba) (rwI I o th) (na := na) (nb := nt) (by omega) x.toNat
      have sb := mtS_s (a := (rwI I o ba)) (b := (rwI I o ou)) (na := na) (nb := nb) (i := x) (by omega)
      have st := mtS_s (a := (rwI I o ba)) (b := (rwI I o th)) (na := na) (nb := nt) (i := x) (by omega)
      have rb := mtP_r (rwI I o ba) (rwI I o ou) (na := na) (nb := nb) x (by omega)
      have rt := mtP_r (rwI I o ba) (rwI I o th) (na := na) (nb := nt) x (by omega)
      have q1 := hp1 x (by omega) (by omega)
      have q2 := hp2 x (by omega) (by omega)
      rw [← hpr] at q1 q2
      obtain ⟨hM1, hM2, hM3, hM4⟩ := hM
      have z6 : J (o + 6) = I (o + 6) := hJ.1 (o + 6) (by omega) (by omega)
      have z5 : J (o + 5) = I (o + 5) := hJ.1 (o + 5) (by omega) (by omega)
      have hsa : J (o + 6) ba = na := by rw [z6]; exact hna
      have hsb : J (o + 6) ou = nb := by rw [z6]; exact hnb
      have hst : J (o + 6) th = nt := by rw [z6]; exact hnt
      have call : ¬ (mtP (rwI I o ba) (rwI I o ou) na nb) x = -9 → ¬ (mtP (rwI I o ba) (rwI I o th) na nt) x = -9 → ∀ (K : Nat → Int → Int), (∀ q, q ≠ o + 16 → K q = J q) → (∀ j, j < 6 * (J o 23) ∨ 6 * (J o 23) + 6 ≤ j → K (o + 16) j = J (o + 16) j) → K (o + 16) (6 * (J o 23)) = b → K (o + 16) (6 * (J o 23) + 1) = x → K (o + 16) (6 * (J o 23) + 2) = p → K (o + 16) (6 * (J o 23) + 3) = (mtP (rwI I o ba) (rwI I o ou) na nb) x → K (o + 16) (6 * (J o 23) + 4) = t → K (o + 16) (6 * (J o 23) + 5) = (mtP (rwI I o ba) (rwI I o th) na nt) x → axX G f 0 0 (fun r1 T1 N1 I1 R1 z1 => (r1 = none ∧ scr I I1 o ∧ mgM I1 o full ∧ full.1.length ≤ 160 ∧ isLn full.1 ∧ full.2.2.length ≤ 17 ∧ (∀ g ∈ full.2.2, gOk g)) ∧ T1 = T ∧ N1 = N ∧ R1 = R ∧ z1 = z) 216 [vR o, vI ba, vI ou, vI th, vI b, vI p, vI t, vI x, vI 0, vI (6 * (J o 23))] [] T N K R z 0 0 := by
        intro n1 n2 K hK hKg k0 k1 k2 k3 k4 k5
        rcases rb with rb | ⟨rb1, rb2, -⟩
        · exact absurd rb n1
        rcases rt with rt | ⟨rt1, rt2, -⟩
        · exact absurd rt n2
        have hlK : lnOk K o := lnOk_eq (by rw [hK _ (by omega)]; exact z5) (by rw [hK _ (by omega)]; exact z6) hl
        have rwK : ∀ c, rwI K o c = rwI I o c := fun c => rwI_eq (by rw [hK _ (by omega)]; exact z5) c
        have z30 : (K o 30) = (I o 30) := by rw [hK o (by omega)]; exact hJ.2 30 (by unfold sfd; omega)
        have z20 : K (o + 20) = I (o + 20) := by rw [hK _ (by omega)]; exact hJ.1 (o + 20) (by omega) (by omega)
        have z21 : K (o + 21) = I (o + 21) := by rw [hK _ (by omega)]; exact hJ.1 (o + 21) (by omega) (by omega)
        have z22 : K (o + 22) = I (o + 22) := by rw [hK _ (by omega)]; exact hJ.1 (o + 22) (by omega) (by omega)
        have z23 : K (o + 23) = I (o + 23) := by rw [hK _ (by omega)]; exact hJ.1 (o + 23) (by omega) (by omega)
        have hRK := miR_eq z30 z20 z21 z22 z23 hR
        have rsKe := rsL_eq z30 z20 z21 z22 z23
        have hoK : K o = J o := hK o (by omega)
        have rK : rM K o s.1 := ⟨by rw [hoK]; exact hM1.1, by rw [hK _ (by omega)]; exact hM1.2⟩
        refine x_aload_n (pc := 216) hC dX12_merges_216 rfl ?_
        refine x_iload_n (pc := 217) hC dX12_merges_217 rfl ?_
        refine x_iload_n (pc := 218) hC dX12_merges_218 rfl ?_
        refine x_iload_n (pc := 219) hC dX12_merges_219 rfl ?_
        refine x_mVx (pc := 220) hC cv_X12_256 dX12_merges_220 (m_mergesGap (g0 := b) (g1 := x) (g2 := p) (g3 := (mtP (rwI I o ba) (rwI I o ou) na nb) x) (g4 := t) (g5 := (mtP (rwI I o ba) (rwI I o th) na nt) x) M hlK hRK rK hba hou hth (by rw [hoK]; omega) (by rw [hoK]; exact k0) (by rw [hoK]; exact k1) (by rw [hoK]; exact k2) (by rw [hoK]; exact k3) (by rw [hoK]; exact k4) (by rw [hoK]; exact k5) (by omega) (by omega) (by omega) (by omega)) M.1 rfl (by decide) rfl rfl (Nat.le_of_ble_eq_true rfl) ?_
        rintro v A ⟨rfl, hA, hAM, hAc, hAo⟩
        dsimp only [Option.toList, List.nil_append]
        rw [rsKe, rwK, rwK, rwK] at hAM hAc hAo
        have gl := gapV_l hrs (seg (rwI I o ba) b x) (seg (rwI I o ou) p ((mtP (rwI I o ba) (rwI I o ou) na nb) x)) (seg (rwI I o th) t ((mtP (rwI I o ba) (rwI I o th) na nt) x))
        have go_ := gapV_o (rsL I o) (seg (rwI I o ba) b x) (seg (rwI I o ou) p ((mtP (rwI I o ba) (rwI I o ou) na nb) x)) (seg (rwI I o th) t ((mtP (rwI I o ba) (rwI I o th) na nt) x))
        have gn := gapV_ln hrs (lnA b x) (lnB p ((mtP (rwI I o ba) (rwI I o ou) na nb) x)) (lnT t ((mtP (rwI I o ba) (rwI I o th) na nt) x))
        simp only [seg_len] at gl
        obtain ⟨gv, hgv⟩ : ∃ v, v = gapV (rsL I o) (seg (rwI I o ba) b x) (seg (rwI I o ou) p ((mtP (rwI I o ba) (rwI I o ou) na nb) x)) (seg (rwI I o th) t ((mtP (rwI I o ba) (rwI I o th) na nt) x)) := ⟨_, rfl⟩
        rw [← hgv] at hAM hAc hAo gl go_ gn
        have rwA : rwI A o ba = rwI I o ba := rwI_eq (by rw [hA.1 _ (by omega) (by omega), hK _ (by omega)]; exact z5) ba
        refine x_aload_n (pc := 223) hC dX12_merges_223 rfl ?_
        refine x_iload_n (pc := 224) hC dX12_merges_224 rfl ?_
        refine x_iload (pc := 225) hC dX12_merges_225 rfl ?_
        refine x_iload (pc := 227) hC dX12_merges_227 rfl ?_
        refine x_if_eq (pc := 229) hC 237 dX12_merges_229 (by decide) (by decide) (fun _ => ?_) (fun b => absurd rfl b)
        refine x_iload (pc := 237) hC dX12_merges_237 rfl ?_
        refine x_iconst (pc := 239) hC dX12_merges_239 ?_
        refine x_iadd (pc := 240) hC dX12_merges_240 ?_
        refine x_mVx (pc := 241) hC cv_X12_250 dX12_merges_241 (m_takes M hAM hba (by omega) (by omega) (by omega) (by simp only [List.length_append]; omega)) M.1 rfl (by decide) rfl rfl (Nat.le_of_ble_eq_true rfl) ?_
        rintro v C ⟨rfl, hC2, hCM⟩
        dsimp only [Option.toList, List.nil_append]
        rw [rwA, seg_cons (by omega), seg_nil (Int.le_refl _)] at hCM
        have hs2 : (mgStep (rsL I o) (rwI I o ba) (rwI I o ou) (rwI I o th) na) s (b, x, p, (mtP (rwI I o ba) (rwI I o ou) na nb) x, t, (mtP (rwI I o ba) (rwI I o th) na nt) x) = (s.1 ++ gv.1 ++ [(rwI I o ba) x], s.2.1 + gv.2.1, if gv.2.2 = 1 then s.2.2 ++ [(b, x, p, (mtP (rwI I o ba) (rwI I o ou) na nb) x, t, (mtP (rwI I o ba) (rwI I o th) na nt) x)] else s.2.2) := by
          have hg : gapG (rsL I o) (rwI I o ba) (rwI I o ou) (rwI I o th) (b, x, p, (mtP (rwI I o ba) (rwI I o ou) na nb) x, t, (mtP (rwI I o ba) (rwI I o th) na nt) x) = gv := by rw [hgv]; rfl
          simp only [mgStep]
          rw [hg, if_pos (by omega)]
        simp only [gapsL] at hfu
        rw [if_neg (by omega), List.foldl_cons, hs2] at hfu
        have sC : scr I C o := by
          refine hJ.tr (scr.tr (J := K) ⟨fun q a c => hK q (by omega), fun k _ => by rw [hoK]⟩ (scr.tr hA.scr hC2.scr))
        have oC : (C o 23) = (J o 23) + gv.2.2 := by rw [hC2.2 23 (by omega), hAo, hoK]
        have gC : C (o + 16) = K (o + 16) := by rw [hC2.1 _ (by omega) (by omega), hA.1 _ (by omega) (by omega)]
        have pC : C (o + 9) = J (o + 9) := by rw [hC2.1 _ (by omega) (by omega), hA.1 _ (by omega) (by omega), hK _ (by omega)]
        have q1C : C (o + 9) x = (mtP (rwI I o ba) (rwI I o ou) na nb) x := by rw [pC]; exact q1
        have q2C : C (o + 9) (16 + x) = (mtP (rwI I o ba) (rwI I o th) na nt) x := by rw [pC]; exact q2
        refine x_iload (pc := 244) hC dX12_merges_244 rfl ?_
        refine x_iconst (pc := 246) hC dX12_merges_246 ?_
        refine x_iadd (pc := 247) hC dX12_merges_247 ?_
        refine x_istore (pc := 248) hC dX12_merges_248 (Nat.le_of_ble_eq_true rfl) ?_
        dsimp only [List.set]
        refine x_iload (pc := 250) hC dX12_merges_250 rfl ?_
        refine x_if_eq (pc := 252) hC 260 dX12_merges_252 (by decide) (by decide) (fun _ => ?_) (fun b => absurd rfl b)
        refine x_aload_n (pc := 260) hC dX12_merges_260 rfl ?_
        refine x_getO (pc := 261) hC gf_X12_34 dX12_merges_261 M.1 (mo_pair M).1 ?_
        refine x_iload (pc := 264) hC dX12_merges_264 rfl ?_
        refine x_iald (pc := 266) hC dX12_merges_266 (mo_pair M).2.1 (by omega) (by rw [(mo_pair M).2.2]; omega) ?_
        refine x_iconst (pc := 267) hC dX12_merges_267 ?_
        refine x_iadd (pc := 268) hC dX12_merges_268 ?_
        refine x_istore (pc := 269) hC dX12_merges_269 (Nat.le_of_ble_eq_true rfl) ?_
        dsimp only [List.set]
        refine x_iload (pc := 271) hC dX12_merges_271 rfl ?_
        refine x_if_eq (pc := 273) hC 281 dX12_merges_273 (by decide) (by decide) (fun _ => ?_) (fun b => absurd rfl b)
        refine x_aload_n (pc := 281) hC dX12_merges_281 rfl ?_
        refine x_getO (pc := 282) hC gf_X12_34 dX12_merges_282 M.1 (mo_pair M).1 ?_
        refine x_bipush (pc := 285) hC dX12_merges_285 (by decide) ?_
        refine x_iload (pc := 287) hC dX12_merges_287 rfl ?_
        refine x_iadd (pc := 289) hC dX12_merges_289 ?_
        refine x_iald (pc := 290) hC dX12_merges_290 (mo_pair M).2.1 (by omega) (by rw [(mo_pair M).2.2]; omega) ?_
        refine x_iconst (pc := 291) hC dX12_merges_291 ?_
        refine x_iadd (pc := 292) hC dX12_merges_292 ?_
        refine x_istore (pc := 293) hC dX12_merges_293 (Nat.le_of_ble_eq_true rfl) ?_
        dsimp only [List.set]
        refine x_iinc (pc := 295) hC dX12_merges_295 rfl ?_
        dsimp only [List.set]
        refine x_goto (pc := 298) hC 41 dX12_merges_298 (by decide) ?_
        rw [q1C, q2C]
        refine ih (x + 1) (x + 1) ((mtP (rwI I o ba) (rwI I o ou) na nb) x + 1) ((mtP (rwI I o ba) (rwI I o th) na nt) x + 1) (s.1 ++ gv.1 ++ [(rwI I o ba) x], s.2.1 + gv.2.1, if gv.2.2 = 1 then s.2.2 ++ [(b, x, p, (mtP (rwI I o ba) (rwI I o ou) na nb) x, t, (mtP (rwI I o ba) (rwI I o th) na nt) x)] else s.2.2) C _ _ (by omega) (by omega) (by omega) (by omega) (by omega) (by rw [sb, if_neg n1]; exact Int.le_refl _) (by omega) (by rw [st, if_neg n2]; exact Int.le_refl _) sC (by rw [pC]; exact hpr) ⟨hCM, ?_, ?_, ?_⟩ ?_ ?_ ?_ ?_ hfu
        · rw [hC2.2 22 (by omega), hAc, hoK, hM2]
        · rw [oC, hM3]
          dsimp only
          rcases go_ with g0 | g0 <;> rw [g0]
          · simp
          · simp
        · dsimp only
          intro k q hk
          rw [gC]
          rcases go_ with g0 | g0 <;> rw [g0] at hk
          · rw [if_neg (by decide)] at hk
            have hkl := (List.getElem?_eq_some_iff.mp hk).1
            have := hM4 k q hk
            rw [hKg _ (by omega), hKg _ (by omega), hKg _ (by omega), hKg _ (by omega), hKg _ (by omega), hKg _ (by omega)]
            exact this
          · rw [if_pos rfl] at hk
            by_cases hkl : k < s.2.2.length
            · rw [List.getElem?_append_left hkl] at hk
              have := hM4 k q hk
              rw [hKg _ (by omega), hKg _ (by omega), hKg _ (by omega), hKg _ (by omega), hKg _ (by omega), hKg _ (by omega)]
              exact this
            · rw [List.getElem?_append_right (by omega)] at hk
              have hk1 := (List.getElem?_eq_some_iff.mp hk).1
              simp at hk1
              have hke : k = s.2.2.length := by omega
              rw [hke, Nat.sub_self] at hk
              cases hk
              rw [hke, ← hM3]
              exact ⟨k0, k1, k2, k3, k4, k5⟩
        · simp only [List.length_append, List.length_cons, List.length_nil]
          omega
        · exact (hln.app gn).app (fun w hw => by simp at hw; rw [hw]; exact hl.1 _)
        · dsimp only
          split <;> (try simp only [List.length_append, List.length_cons, List.length_nil]) <;> omega
        · dsimp only
          intro g hg
          split at hg
          · rcases List.mem_append.mp hg with hg | hg
            · exact hgo g hg
            · simp at hg
              subst hg
              exact ⟨⟨by dsimp only; omega, by dsimp only; omega, by dsimp only; omega⟩, ⟨by dsimp only; omega, by dsimp only; omega, by dsimp only; omega⟩, by dsimp only; omega, by dsimp only; omega, by dsimp only; omega⟩
          · exact hgo g hg
      refine x_iload (pc := 41) hC dX12_merges_41 rfl ?_
      refine x_aload_n (pc := 43) hC dX12_merges_43 rfl ?_
      refine x_getO (pc := 44) hC gf_X12_25 dX12_merges_44 M.1 (mo_size M).1 ?_
      refine x_iload_n (pc := 47) hC dX12_merges_47 rfl ?_
      refine x_iald (pc := 48) hC dX12_merges_48 (mo_size M).2.1 (by omega) (by rw [(mo_size M).2.2]; omega) ?_
      refine x_icmp_gt (pc := 49) hC 301 dX12_merges_49 (by decide) (by omega) (by omega) (fun b49 => ?_) (fun b49 => ?_)
      · omega
      · refine x_iload (pc := 52) hC dX12_merges_52 rfl ?_
        refine x_aload_n (pc := 54) hC dX12_merges_54 rfl ?_
        refine x_getO (pc := 55) hC gf_X12_25 dX12_merges_55 M.1 (mo_size M).1 ?_
        refine x_iload_n (pc := 58) hC dX12_merges_58 rfl ?_
        refine x_iald (pc := 59) hC dX12_merges_59 (mo_size M).2.1 (by omega) (by rw [(mo_size M).2.2]; omega) ?_
        refine x_icmp_ne (pc := 60) hC 67 dX12_merges_60 (by decide) (by omega) (by omega) (fun _ => ?_) (fun b => absurd b (by omega))
        refine x_iconst (pc := 67) hC dX12_merges_67 ?_
        refine x_istore (pc := 68) hC dX12_merges_68 (Nat.le_of_ble_eq_true rfl) ?_
        dsimp only [List.set]
        refine x_iload (pc := 70) hC dX12_merges_70 rfl ?_
        refine x_if_ne (pc := 72) hC 102 dX12_merges_72 (by decide) (by decide) (fun b => absurd rfl b) (fun _ => ?_)
        refine x_aload_n (pc := 75) hC dX12_merges_75 rfl ?_
        refine x_getO (pc := 76) hC gf_X12_34 dX12_merges_76 M.1 (mo_pair M).1 ?_
        refine x_iload (pc := 79) hC dX12_merges_79 rfl ?_
        refine x_iald (pc := 81) hC dX12_merges_81 (mo_pair M).2.1 (by omega) (by rw [(mo_pair M).2.2]; omega) ?_
        refine x_bipush (pc := 82) hC dX12_merges_82 (by decide) ?_
        refine x_icmp_eq (pc := 84) hC 295 dX12_merges_84 (by decide) (by omega) (by omega) (fun b84 => ?_) (fun b84 => ?_)
        · have hor : (mtP (rwI I o ba) (rwI I o ou) na nb) x = -9 ∨ (mtP (rwI I o ba) (rwI I o th) na nt) x = -9 := by omega
          refine x_iinc (pc := 295) hC dX12_merges_295 rfl ?_
          dsimp only [List.set]
          refine x_goto (pc := 298) hC 41 dX12_merges_298 (by decide) ?_
          have sbl : (mtS (rwI I o ba) (rwI I o ou) na nb x.toNat).2 ≤ (mtS (rwI I o ba) (rwI I o ou) na nb (x + 1).toNat).2 := by
            rw [sb]
            split
            · exact Int.le_refl _
            · dsimp only; omega
          have stl : (mtS (rwI I o ba) (rwI I o th) na nt x.toNat).2 ≤ (mtS (rwI I o ba) (rwI I o th) na nt (x + 1).toNat).2 := by
            rw [st]
            split
            · exact Int.le_refl _
            · dsimp only; omega
          refine ih (x + 1) b p t s J _ _ (by omega) b0 (by omega) (by omega) p0 (by omega) t0 (by omega) hJ hpr ⟨hM1, hM2, hM3, hM4⟩ hlen hln hop hgo ?_
          rw [hfu]
          simp only [gapsL]
          rw [if_pos hor]
        · refine x_aload_n (pc := 87) hC dX12_merges_87 rfl ?_
          refine x_getO (pc := 88) hC gf_X12_34 dX12_merges_88 M.1 (mo_pair M).1 ?_
          refine x_bipush (pc := 91) hC dX12_merges_91 (by decide) ?_
          refine x_iload (pc := 93) hC dX12_merges_93 rfl ?_
          refine x_iadd (pc := 95) hC dX12_merges_95 ?_
          refine x_iald (pc := 96) hC dX12_merges_96 (mo_pair M).2.1 (by omega) (by rw [(mo_pair M).2.2]; omega) ?_
          refine x_bipush (pc := 97) hC dX12_merges_97 (by decide) ?_
          refine x_icmp_eq (pc := 99) hC 295 dX12_merges_99 (by decide) (by omega) (by omega) (fun b99 => ?_) (fun b99 => ?_)
          · have hor : (mtP (rwI I o ba) (rwI I o ou) na nb) x = -9 ∨ (mtP (rwI I o ba) (rwI I o th) na nt) x = -9 := by omega
            refine x_iinc (pc := 295) hC dX12_merges_295 rfl ?_
            dsimp only [List.set]
            refine x_goto (pc := 298) hC 41 dX12_merges_298 (by decide) ?_
            have sbl : (mtS (rwI I o ba) (rwI I o ou) na nb x.toNat).2 ≤ (mtS (rwI I o ba) (rwI I o ou) na nb (x + 1).toNat).2 := by
              rw [sb]
              split
              · exact Int.le_refl _
              · dsimp only; omega
            have stl : (mtS (rwI I o ba) (rwI I o th) na nt x.toNat).2 ≤ (mtS (rwI I o ba) (rwI I o th) na nt (x + 1).toNat).2 := by
              rw [st]
              split
              · exact Int.le_refl _
              · dsimp only; omega
            refine ih (x + 1) b p t s J _ _ (by omega) b0 (by omega) (by omega) p0 (by omega) t0 (by omega) hJ hpr ⟨hM1, hM2, hM3, hM4⟩ hlen hln hop hgo ?_
            rw [hfu]
            simp only [gapsL]
            rw [if_pos hor]
          · refine x_bipush (pc := 102) hC dX12_merges_102 (by decide) ?_
            refine x_aload_n (pc := 104) hC dX12_merges_104 rfl ?_
            refine x_getI (pc := 105) hC gf_X12_236 dX12_merges_105 M.1 ?_
            refine x_imul (pc := 108) hC dX12_merges_108 ?_
            refine x_istore (pc := 109) hC dX12_merges_109 (Nat.le_of_ble_eq_true rfl) ?_
            dsimp only [List.set]
            refine x_aload_n (pc := 111) hC dX12_merges_111 rfl ?_
            refine x_getO (pc := 112) hC gf_X12_55 dX12_merges_112 M.1 (mo_gapOf M).1 ?_
            refine x_iload (pc := 115) hC dX12_merges_115 rfl ?_
            refine x_iload (pc := 117) hC dX12_merges_117 rfl ?_
            refine x_iast (pc := 119) hC dX12_merges_119 (mo_gapOf M).2.1 (by omega) (by rw [(mo_gapOf M).2.2]; omega) ?_
            refine x_aload_n (pc := 120) hC dX12_merges_120 rfl ?_
            refine x_getO (pc := 121) hC gf_X12_55 dX12_merges_121 M.1 (mo_gapOf M).1 ?_
            refine x_iload (pc := 124) hC dX12_merges_124 rfl ?_
            refine x_iconst (pc := 126) hC dX12_merges_126 ?_
            refine x_iadd (pc := 127) hC dX12_merges_127 ?_
            refine x_iload (pc := 128) hC dX12_merges_128 rfl ?_
            refine x_iast (pc := 130) hC dX12_merges_130 (mo_gapOf M).2.1 (by omega) (by rw [(mo_gapOf M).2.2]; omega) ?_
            refine x_aload_n (pc := 131) hC dX12_merges_131 rfl ?_
            refine x_getO (pc := 132) hC gf_X12_55 dX12_merges_132 M.1 (mo_gapOf M).1 ?_
            refine x_iload (pc := 135) hC dX12_merges_135 rfl ?_
            refine x_iconst (pc := 137) hC dX12_merges_137 ?_
            refine x_iadd (pc := 138) hC dX12_merges_138 ?_
            refine x_iload (pc := 139) hC dX12_merges_139 rfl ?_
            refine x_iast (pc := 141) hC dX12_merges_141 (mo_gapOf M).2.1 (by omega) (by rw [(mo_gapOf M).2.2]; omega) ?_
            refine x_aload_n (pc := 142) hC dX12_merges_142 rfl ?_
            refine x_getO (pc := 143) hC gf_X12_55 dX12_merges_143 M.1 (mo_gapOf M).1 ?_
            refine x_iload (pc := 146) hC dX12_merges_146 rfl ?_
            refine x_iconst (pc := 148) hC dX12_merges_148 ?_
            refine x_iadd (pc := 149) hC dX12_merges_149 ?_
            refine x_iload (pc := 150) hC dX12_merges_150 rfl ?_
            refine x_if_eq (pc := 152) hC 164 dX12_merges_152 (by decide) (by decide) (fun _ => ?_) (fun b => absurd rfl b)
            refine x_aload_n (pc := 164) hC dX12_merges_164 rfl ?_
            refine x_getO (pc := 165) hC gf_X12_34 dX12_merges_165 M.1 (mo_pair M).1 ?_
            refine x_iload (pc := 168) hC dX12_merges_168 rfl ?_
            refine x_iald (pc := 170) hC dX12_merges_170 (mo_pair M).2.1 (by omega) (by rw [(mo_pair M).2.2]; omega) ?_
            simp only [axu_row (show o + 9 ≠ o + 16 by omega)]
            rw [q1]
            refine x_iast (pc := 171) hC dX12_merges_171 (mo_gapOf M).2.1 (by omega) (by rw [(mo_gapOf M).2.2]; omega) ?_
            refine x_aload_n (pc := 172) hC dX12_merges_172 rfl ?_
            refine x_getO (pc := 173) hC gf_X12_55 dX12_merges_173 M.1 (mo_gapOf M).1 ?_
            refine x_iload (pc := 176) hC dX12_merges_176 rfl ?_
            refine x_iconst (pc := 178) hC dX12_merges_178 ?_
            refine x_iadd (pc := 179) hC dX12_merges_179 ?_
            refine x_iload (pc := 180) hC dX12_merges_180 rfl ?_
            refine x_iast (pc := 182) hC dX12_merges_182 (mo_gapOf M).2.1 (by omega) (by rw [(mo_gapOf M).2.2]; omega) ?_
            refine x_aload_n (pc := 183) hC dX12_merges_183 rfl ?_
            refine x_getO (pc := 184) hC gf_X12_55 dX12_merges_184 M.1 (mo_gapOf M).1 ?_
            refine x_iload (pc := 187) hC dX12_merges_187 rfl ?_
            refine x_iconst (pc := 189) hC dX12_merges_189 ?_
            refine x_iadd (pc := 190) hC dX12_merges_190 ?_
            refine x_iload (pc := 191) hC dX12_merges_191 rfl ?_
            refine x_if_eq (pc := 193) hC 205 dX12_merges_193 (by decide) (by decide) (fun _ => ?_) (fun b => absurd rfl b)
            refine x_aload_n (pc := 205) hC dX12_merges_205 rfl ?_
            refine x_getO (pc := 206) hC gf_X12_34 dX12_merges_206 M.1 (mo_pair M).1 ?_
            refine x_bipush (pc := 209) hC dX12_merges_209 (by decide) ?_
            refine x_iload (pc := 211) hC dX12_merges_211 rfl ?_
            refine x_iadd (pc := 213) hC dX12_merges_213 ?_
            refine x_iald (pc := 214) hC dX12_merges_214 (mo_pair M).2.1 (by omega) (by rw [(mo_pair M).2.2]; omega) ?_
            simp only [axu_row (show o + 9 ≠ o + 16 by omega)]
            rw [q2]
            refine x_iast (pc := 215) hC dX12_merges_215 (mo_gapOf M).2.1 (by omega) (by rw [(mo_gapOf M).2.2]; omega) ?_
            refine call (by omega) (by omega) _ (fun q a => ?_) (fun j a => ?_) ?_ ?_ ?_ ?_ ?_ ?_
            · rw [axu_row a, axu_row a, axu_row a, axu_row a, axu_row a, axu_row a]
            · rw [axu_j (by omega), axu_j (by omega), axu_j (by omega), axu_j (by omega), axu_j (by omega), axu_j (by omega)]
            · rw [axu_j (by omega), axu_j (by omega), axu_j (by omega), axu_j (by omega), axu_j (by omega), axu_s]
            · rw [axu_j (by omega), axu_j (by omega), axu_j (by omega), axu_j (by omega), axu_s]
            · rw [axu_j (by omega), axu_j (by omega), axu_j (by omega), axu_s]
            · rw [axu_j (by omega), axu_j (by omega), axu_s]
            · rw [axu_j (by omega), axu_s]
            · exact axu_s
  refine x_aload_n (pc := 0) hC dX12_merges_0 rfl ?_
  refine x_iload_n (pc := 1) hC dX12_merges_1 rfl ?_
  refine x_iload_n (pc := 2) hC dX12_merges_2 rfl ?_
  refine x_iconst (pc := 3) hC dX12_merges_3 ?_
  refine x_mVx (pc := 4) hC cv_X12_154 dX12_merges_4 (m_pairs (na := na) (nb := nb) M hl hba hou (Or.inl rfl) hna hnb) M.1 rfl (by decide) rfl rfl (Nat.le_of_ble_eq_true rfl) ?_
  rintro v A ⟨rfl, hA, -, hAp⟩
  dsimp only [Option.toList, List.nil_append]
  have a5 : A (o + 5) = I (o + 5) := hA _ (by omega) (by omega)
  have a6 : A (o + 6) = I (o + 6) := hA _ (by omega) (by omega)
  refine x_aload_n (pc := 7) hC dX12_merges_7 rfl ?_
  refine x_iload_n (pc := 8) hC dX12_merges_8 rfl ?_
  refine x_iload_n (pc := 9) hC dX12_merges_9 rfl ?_
  refine x_iconst (pc := 10) hC dX12_merges_10 ?_
  refine x_mVx (pc := 11) hC cv_X12_154 dX12_merges_11 (m_pairs (na := na) (nb := nt) M (lnOk_eq a5 a6 hl) hba hth (Or.inr rfl) (by rw [a6]; exact hna) (by rw [a6]; exact hnt)) M.1 rfl (by decide) rfl rfl (Nat.le_of_ble_eq_true rfl) ?_
  rintro v C ⟨rfl, hCa, hCo, hCp⟩
  dsimp only [Option.toList, List.nil_append]
  rw [rwI_eq a5, rwI_eq a5] at hCp
  refine x_aload_n (pc := 14) hC dX12_merges_14 rfl ?_
  refine x_iconst (pc := 15) hC dX12_merges_15 ?_
  refine x_putI (pc := 16) hC pf_X12_210 dX12_merges_16 M.1 (by decide) ?_
  refine x_aload_n (pc := 19) hC dX12_merges_19 rfl ?_
  refine x_iconst (pc := 20) hC dX12_merges_20 ?_
  refine x_putI (pc := 21) hC pf_X12_207 dX12_merges_21 M.1 (by decide) ?_
  refine x_aload_n (pc := 24) hC dX12_merges_24 rfl ?_
  refine x_iconst (pc := 25) hC dX12_merges_25 ?_
  refine x_putI (pc := 26) hC pf_X12_236 dX12_merges_26 M.1 (by decide) ?_
  refine x_iconst (pc := 29) hC dX12_merges_29 ?_
  refine x_istore (pc := 30) hC dX12_merges_30 (Nat.le_of_ble_eq_true rfl) ?_
  dsimp only [List.set]
  refine x_iconst (pc := 32) hC dX12_merges_32 ?_
  refine x_istore (pc := 33) hC dX12_merges_33 (Nat.le_of_ble_eq_true rfl) ?_
  dsimp only [List.set]
  refine x_iconst (pc := 35) hC dX12_merges_35 ?_
  refine x_istore (pc := 36) hC dX12_merges_36 (Nat.le_of_ble_eq_true rfl) ?_
  dsimp only [List.set]
  refine x_iconst (pc := 38) hC dX12_merges_38 ?_
  refine x_istore (pc := 39) hC dX12_merges_39 (Nat.le_of_ble_eq_true rfl) ?_
  dsimp only [List.set]
  have hsc : scr I (ax_u (ax_u (ax_u C o 21 0) o 22 0) o 23 0) o := by
    refine ⟨fun q a c => ?_, fun k a => ?_⟩
    · rw [axu_row a, axu_row a, axu_row a, hCa q (by omega) (by omega), hA q (by omega) (by omega)]
    · have : k ≠ 21 ∧ k ≠ 22 ∧ k ≠ 23 := by unfold sfd at a; omega
      rw [axu_j this.2.2, axu_j this.2.1, axu_j this.1, hCa o (by omega) (by omega), hA o (by omega) (by omega)]
  refine main _ (fun i a c => ?_) (fun i a c => ?_) hsc na.toNat 0 0 0 0 ([], 0, []) _ _ _ (by omega) (by omega) (by omega) (by omega) (by omega) (by rw [mtS_0]; exact Int.le_refl _) (by omega) (by rw [mtS_0]; exact Int.le_refl _) hsc rfl ⟨⟨?_, seg_nil (by simp)⟩, ?_, ?_, fun k q hk => by simp at hk⟩ (by simp) isLn.nil (by simp) (fun g hg => by simp at hg) hfull
  · rw [axu_row (by omega), axu_row (by omega), axu_row (by omega), hCo i (by omega)]
    have := hAp i a c
    rw [← this]; congr 1; omega
  · rw [axu_row (by omega), axu_row (by omega), axu_row (by omega)]
    have := hCp i a c
    rw [← this]; congr 1
  · rw [axu_j (by omega), axu_j (by omega), axu_s]; rfl
  · rw [axu_j (by omega), axu_s]
  · rw [axu_s]; rfl

