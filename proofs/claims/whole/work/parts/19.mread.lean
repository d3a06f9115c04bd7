/-! THE REFERENCE: mark, alike, piece, ofCommit -/
/-- what always holds of the commits -/
def miC (I : Nat → Int → Int) (o : Nat) : Prop := (1 ≤ I o 2 ∧ I o 2 ≤ 24) ∧ lnOk I o ∧ PW (I (o + 2)) (I o 2) ∧ I (o + 2) 0 = -9 ∧ (∀ b, 0 ≤ b → b < 4 → 0 ≤ I (o + 7) b ∧ I (o + 7) b < I o 2) ∧ ∀ c, 0 ≤ I (o + 1) c ∧ I (o + 1) c ≤ 2
theorem miC.up {I : Nat → Int → Int} {o : Nat} (h : miC I o) {c : Int} (h0 : 0 ≤ c) (h1 : c < I o 2) : c ≠ 0 → 0 ≤ I (o + 2) c ∧ I (o + 2) c < 24 := fun hc => by
  have := h.2.2.1.2 c (by omega) h1
  have := h.1
  omega
def mkR (I : Nat → Int → Int) (o : Nat) (c : Int) : Int := if 0 ≤ c ∧ c < I o 2 then hsC (chgC I o c).length (chgC I o c) else -1
def alR (I : Nat → Int → Int) (o : Nat) (c d : Int) : Int := if (0 ≤ c ∧ c < I o 2) ∧ 0 ≤ d ∧ d < I o 2 then bI (chgC I o c = chgC I o d) else -1
def atO (l : List Int) (i : Int) : Int := if i < l.length then l.getD i.toNat 0 else -9
def pcV (p : List Int × List Int) (w : Int) : Int := if 10 ≤ w ∧ w ≤ 25 then atO p.1 (w - 10) else if 30 ≤ w ∧ w ≤ 45 then atO p.2 (w - 30) else if w = 0 then p.1.length else if w = 1 then p.2.length else -2
def pcR (I : Nat → Int → Int) (o : Nat) (c k w : Int) : Int := if (0 ≤ c ∧ c < I o 2) ∧ 0 ≤ k ∧ k < (chgC I o c).length then pcV ((chgC I o c).getD k.toNat ([], [])) w else -1
def ofR (I : Nat → Int → Int) (o : Nat) (c w : Int) : Int := if 0 ≤ c ∧ c < I o 2 then (if 10 ≤ w ∧ w ≤ 25 then (if w - 10 < I (o + 6) c then I (o + 5) (16 * c + w - 10) else -9) else if w = 0 then I (o + 1) c else if w = 1 then I (o + 2) c else if w = 2 then I (o + 6) c else if w = 3 then (chgC I o c).length else if w = 4 then (path (I (o + 2)) c).length else if w = 5 then I (o + 3) c else -2) else -1
theorem seg_at {f : Int → Int} {i j k : Int} (h0 : 0 ≤ k) (h1 : k < j - i) : (seg f i j).getD k.toNat 0 = f (i + k) := by
  rw [List.getD_eq_getElem?_getD, seg_get (by omega)]
  have : ((k.toNat : Nat) : Int) = k := Int.toNat_of_nonneg h0
  rw [this]; rfl
theorem atO_seg {f : Int → Int} {i j k : Int} (hij : i ≤ j) (h0 : 0 ≤ k) : atO (seg f i j) k = if k < j - i then f (i + k) else -9 := by
  unfold atO
  rw [seg_len]
  by_cases h : k < j - i
  · rw [if_pos (by omega), if_pos h, seg_at h0 h]
  · rw [if_neg (by omega), if_neg h]
theorem hsl_step (h : Int) (a : Int → Int) (i j : Int) (hij : i ≤ j) (k : Int) : (seg a i (j + 1)).foldl (fun h x => 31 * h + sgn x.toNat) k = 31 * (seg a i j).foldl (fun h x => 31 * h + sgn x.toNat) k + sgn (a j).toNat := by
  rw [seg_snoc hij, List.foldl_append]; rfl

set_option maxHeartbeats 4000000 in
set_option maxRecDepth 100000 in
theorem m_mark {G : ax_G} {T : Nat → Nat} {N : Nat → Int} {I : Nat → Int → Int} {R : Nat → Int → Option Nat} {z o : Nat} (M : axMo T N R o) {c : Int} (hm : miC I o) (hcr : ax_r c) : axEx G YX12_mark 4 [vR o, vI c] T N I R z (fun r1 I1 => r1 = some (vI (mkR I o c)) ∧ scr I I1 o) := by

  refine ax_enter (by decide) (Nat.le_of_ble_eq_true rfl) (ax_cat rfl) (fun f hC => ?_)
  show axX G f 0 0 _ 0 [vR o, vI c, vU, vU, vU] [] T N I R z 0 0
  have hmm := hm.1
  have hl := hm.2.1
  by_cases hc : 0 ≤ c ∧ c < (I o 2)
  · have hpo := pcsC_ok hl c
    obtain ⟨l, hl1⟩ : ∃ l, l = pcsC I o c := ⟨_, rfl⟩
    rw [← hl1] at hpo
    have main : ∀ (B : Nat → Int → Int), frP I B o → (B o 13) = l.length → pcM B o l → ∀ (m : Nat) (k : Nat) (h : Int) (c4 : ax_V), l.length - k ≤ m → k ≤ l.length → h = hsC (l.length : Int) (chgL (rwI I o (I (o + 2) c)) (rwI I o c) (l.take k)) → axX G f 0 0 (fun r1 T1 N1 I1 R1 z1 => (r1 = some (vI (mkR I o c)) ∧ scr I I1 o) ∧ T1 = T ∧ N1 = N ∧ R1 = R ∧ z1 = z) 22 [vR o, vI c, vI h, vI (k : Int), c4] [] T N B R z 0 0 := by
      intro B hB hBp hBm m
      induction m with
      | zero =>
        intro k h c4 hmk hk hh
        refine x_iload_n (pc := 22) hC dX12_mark_22 rfl ?_
        refine x_aload_n (pc := 23) hC dX12_mark_23 rfl ?_
        refine x_getI (pc := 24) hC gf_X12_151 dX12_mark_24 M.1 ?_
        refine x_icmp_ge (pc := 27) hC 171 dX12_mark_27 (by decide) (by omega) (by omega) (fun b27 => ?_) (fun b27 => ?_)
        · refine x_iload_n (pc := 171) hC dX12_mark_171 rfl ?_
          refine x_iret (pc := 172) hC rfl dX12_mark_172 ?_
          have hkl : k = l.length := by omega
          rw [hkl, List.take_length] at hh
          refine ⟨⟨?_, hB.scr⟩, rfl, rfl, rfl, rfl⟩
          unfold mkR
          rw [if_pos hc, hh, chgC_len, ← hl1]
          unfold chgC
          rw [← hl1]
        · omega
      | succ m ih =>
        intro k h c4 hmk hk hh
        refine x_iload_n (pc := 22) hC dX12_mark_22 rfl ?_
        refine x_aload_n (pc := 23) hC dX12_mark_23 rfl ?_
        refine x_getI (pc := 24) hC gf_X12_151 dX12_mark_24 M.1 ?_
        refine x_icmp_ge (pc := 27) hC 171 dX12_mark_27 (by decide) (by omega) (by omega) (fun b27 => ?_) (fun b27 => ?_)
        · refine x_iload_n (pc := 171) hC dX12_mark_171 rfl ?_
          refine x_iret (pc := 172) hC rfl dX12_mark_172 ?_
          have hkl : k = l.length := by omega
          rw [hkl, List.take_length] at hh
          refine ⟨⟨?_, hB.scr⟩, rfl, rfl, rfl, rfl⟩
          unfold mkR
          rw [if_pos hc, hh, chgC_len, ← hl1]
          unfold chgC
          rw [← hl1]
        · have hklt : k < l.length := by omega
          obtain ⟨q, hq⟩ : ∃ q, l[k]? = some q := ⟨_, List.getElem?_eq_getElem hklt⟩
          have hqm : q ∈ l := List.mem_of_getElem? hq
          obtain ⟨q1, q2, q3, q4, q5, q6⟩ := hpo.1 q hqm
          obtain ⟨m1, m2, m3, m4⟩ := hBm k q hq
          have hsn := take_snoc hq
          have kr : k < 17 := by omega
          have hup0 : c ≠ 0 := by
            intro h0
            rw [hl1] at hqm
            simp [pcsC, h0] at hqm
          have hup := hm.up hc.1 hc.2 hup0
          have e2 : B (o + 2) = I (o + 2) := hB.1 (o + 2) (by omega) (by omega)
          have e5 : B (o + 5) = I (o + 5) := hB.1 (o + 5) (by omega) (by omega)
          have hln : ∀ j, 0 ≤ B (o + 5) j ∧ B (o + 5) j < 100 := by rw [e5]; exact hl.1
          have lpB : ∀ (n : Nat) (j h : Int), (q.2.2.2 - j).toNat ≤ n → q.2.2.1 ≤ j → j ≤ q.2.2.2 → h = (seg (rwI I o c) q.2.2.1 j).foldl (fun h x => 31 * h + sgn x.toNat) (31 * hsl (hsC (l.length : Int) (chgL (rwI I o (I (o + 2) c)) (rwI I o c) (l.take k))) (seg (rwI I o (I (o + 2) c)) q.1 q.2.1) + (seg (rwI I o c) q.2.2.1 q.2.2.2).length) → axX G f 0 0 (fun r1 T1 N1 I1 R1 z1 => (r1 = some (vI (mkR I o c)) ∧ scr I I1 o) ∧ T1 = T ∧ N1 = N ∧ R1 = R ∧ z1 = z) 127 [vR o, vI c, vI h, vI (k : Int), vI j] [] T N B R z 0 0 := by
            intro n
            induction n with
            | zero =>
              intro j h hn h1 h2 hh
              refine x_iload (pc := 127) hC dX12_mark_127 rfl ?_
              refine x_aload_n (pc := 129) hC dX12_mark_129 rfl ?_
              refine x_getO (pc := 130) hC gf_X12_46 dX12_mark_130 M.1 (mo_inTo M).1 ?_
              refine x_iload_n (pc := 133) hC dX12_mark_133 rfl ?_
              refine x_iald (pc := 134) hC dX12_mark_134 (mo_inTo M).2.1 (by omega) (by rw [(mo_inTo M).2.2]; omega) ?_
              refine x_icmp_ge (pc := 135) hC 165 dX12_mark_135 (by decide) (by omega) (by omega) (fun b135 => ?_) (fun b135 => ?_)
              · have hj2 : j = q.2.2.2 := by omega
                subst hj2
                refine x_iinc (pc := 165) hC dX12_mark_165 rfl ?_
                dsimp only [List.set]
                refine x_goto (pc := 168) hC 22 dX12_mark_168 (by decide) ?_
                refine ih (k + 1) _ _ (by omega) (by omega) ?_
                rw [hsn, hh]
                simp only [hsC, chgL, List.map_append, List.foldl_append, List.map_cons, List.map_nil, List.foldl_cons, List.foldl_nil]
                rfl
              · omega
            | succ n ihn =>
              intro j h hn h1 h2 hh
              refine x_iload (pc := 127) hC dX12_mark_127 rfl ?_
              refine x_aload_n (pc := 129) hC dX12_mark_129 rfl ?_
              refine x_getO (pc := 130) hC gf_X12_46 dX12_mark_130 M.1 (mo_inTo M).1 ?_
              refine x_iload_n (pc := 133) hC dX12_mark_133 rfl ?_
              refine x_iald (pc := 134) hC dX12_mark_134 (mo_inTo M).2.1 (by omega) (by rw [(mo_inTo M).2.2]; omega) ?_
              refine x_icmp_ge (pc := 135) hC 165 dX12_mark_135 (by decide) (by omega) (by omega) (fun b135 => ?_) (fun b135 => ?_)
              · have hj2 : j = q.2.2.2 := by omega
                subst hj2
                refine x_iinc (pc := 165) hC dX12_mark_165 rfl ?_
                dsimp only [List.set]
                refine x_goto (pc := 168) hC 22 dX12_mark_168 (by decide) ?_
                refine ih (k + 1) _ _ (by omega) (by omega) ?_
                rw [hsn, hh]
                simp only [hsC, chgL, List.map_append, List.foldl_append, List.map_cons, List.map_nil, List.foldl_cons, List.foldl_nil]
                rfl
              · refine x_bipush (pc := 138) hC dX12_mark_138 (by decide) ?_
                refine x_iload_n (pc := 140) hC dX12_mark_140 rfl ?_
                refine x_imul (pc := 141) hC dX12_mark_141 ?_
                refine x_aload_n (pc := 142) hC dX12_mark_142 rfl ?_
                refine x_getO (pc := 143) hC gf_X12_22 dX12_mark_143 M.1 (mo_line M).1 ?_
                refine x_bipush (pc := 146) hC dX12_mark_146 (by decide) ?_
                refine x_iload_n (pc := 148) hC dX12_mark_148 rfl ?_
                refine x_imul (pc := 149) hC dX12_mark_149 ?_
                refine x_iload (pc := 150) hC dX12_mark_150 rfl ?_
                refine x_iadd (pc := 152) hC dX12_mark_152 ?_
                refine x_iald (pc := 153) hC dX12_mark_153 (mo_line M).2.1 (by omega) (by rw [(mo_line M).2.2]; omega) ?_
                have hlv := hln (16 * c + j)
                refine x_mS (pc := 154) hC cs_X12_175 dX12_mark_154 (m_signOf hlv) rfl (by decide) rfl rfl (Nat.le_of_ble_eq_true rfl) ?_
                refine x_iadd (pc := 157) hC dX12_mark_157 ?_
                refine x_istore_n (pc := 158) hC dX12_mark_158 (Nat.le_of_ble_eq_true rfl) ?_
                dsimp only [List.set]
                refine x_iinc (pc := 159) hC dX12_mark_159 rfl ?_
                dsimp only [List.set]
                refine x_goto (pc := 162) hC 127 dX12_mark_162 (by decide) ?_
                refine ihn (j + 1) _ (by omega) (by omega) (by omega) ?_
                rw [hsl_step 0 _ _ _ (by omega), ← hh, show rwI I o c j = B (o + 5) (16 * c + j) by rw [e5]]
          have lpA : ∀ (n : Nat) (j h : Int), (q.2.1 - j).toNat ≤ n → q.1 ≤ j → j ≤ q.2.1 → h = (seg (rwI I o (I (o + 2) c)) q.1 j).foldl (fun h x => 31 * h + sgn x.toNat) (31 * (hsC (l.length : Int) (chgL (rwI I o (I (o + 2) c)) (rwI I o c) (l.take k))) + (seg (rwI I o (I (o + 2) c)) q.1 q.2.1).length) → axX G f 0 0 (fun r1 T1 N1 I1 R1 z1 => (r1 = some (vI (mkR I o c)) ∧ scr I I1 o) ∧ T1 = T ∧ N1 = N ∧ R1 = R ∧ z1 = z) 57 [vR o, vI c, vI h, vI (k : Int), vI j] [] T N B R z 0 0 := by
            intro n
            induction n with
            | zero =>
              intro j h hn h1 h2 hh
              refine x_iload (pc := 57) hC dX12_mark_57 rfl ?_
              refine x_aload_n (pc := 59) hC dX12_mark_59 rfl ?_
              refine x_getO (pc := 60) hC gf_X12_40 dX12_mark_60 M.1 (mo_outTo M).1 ?_
              refine x_iload_n (pc := 63) hC dX12_mark_63 rfl ?_
              refine x_iald (pc := 64) hC dX12_mark_64 (mo_outTo M).2.1 (by omega) (by rw [(mo_outTo M).2.2]; omega) ?_
              refine x_icmp_ge (pc := 65) hC 100 dX12_mark_65 (by decide) (by omega) (by omega) (fun b65 => ?_) (fun b65 => ?_)
              · have hj2 : j = q.2.1 := by omega
                subst hj2
                refine x_bipush (pc := 100) hC dX12_mark_100 (by decide) ?_
                refine x_iload_n (pc := 102) hC dX12_mark_102 rfl ?_
                refine x_imul (pc := 103) hC dX12_mark_103 ?_
                refine x_aload_n (pc := 104) hC dX12_mark_104 rfl ?_
                refine x_getO (pc := 105) hC gf_X12_46 dX12_mark_105 M.1 (mo_inTo M).1 ?_
                refine x_iload_n (pc := 108) hC dX12_mark_108 rfl ?_
                refine x_iald (pc := 109) hC dX12_mark_109 (mo_inTo M).2.1 (by omega) (by rw [(mo_inTo M).2.2]; omega) ?_
                refine x_aload_n (pc := 110) hC dX12_mark_110 rfl ?_
                refine x_getO (pc := 111) hC gf_X12_43 dX12_mark_111 M.1 (mo_inFrom M).1 ?_
                refine x_iload_n (pc := 114) hC dX12_mark_114 rfl ?_
                refine x_iald (pc := 115) hC dX12_mark_115 (mo_inFrom M).2.1 (by omega) (by rw [(mo_inFrom M).2.2]; omega) ?_
                refine x_isub (pc := 116) hC dX12_mark_116 ?_
                refine x_iadd (pc := 117) hC dX12_mark_117 ?_
                refine x_istore_n (pc := 118) hC dX12_mark_118 (Nat.le_of_ble_eq_true rfl) ?_
                dsimp only [List.set]
                refine x_aload_n (pc := 119) hC dX12_mark_119 rfl ?_
                refine x_getO (pc := 120) hC gf_X12_43 dX12_mark_120 M.1 (mo_inFrom M).1 ?_
                refine x_iload_n (pc := 123) hC dX12_mark_123 rfl ?_
                refine x_iald (pc := 124) hC dX12_mark_124 (mo_inFrom M).2.1 (by omega) (by rw [(mo_inFrom M).2.2]; omega) ?_
                refine x_istore (pc := 125) hC dX12_mark_125 (Nat.le_of_ble_eq_true rfl) ?_
                dsimp only [List.set]
                rw [m3]
                refine lpB (q.2.2.2 - q.2.2.1).toNat q.2.2.1 _ (by omega) (by omega) (by omega) ?_
                rw [seg_nil (Int.le_refl _), seg_len, m4, hh]
                simp only [List.foldl_nil]
                have : (((q.2.2.2 - q.2.2.1).toNat : Nat) : Int) = q.2.2.2 - q.2.2.1 := by omega
                rw [this]
                rfl
              · omega
            | succ n ihn =>
              intro j h hn h1 h2 hh
              refine x_iload (pc := 57) hC dX12_mark_57 rfl ?_
              refine x_aload_n (pc := 59) hC dX12_mark_59 rfl ?_
              refine x_getO (pc := 60) hC gf_X12_40 dX12_mark_60 M.1 (mo_outTo M).1 ?_
              refine x_iload_n (pc := 63) hC dX12_mark_63 rfl ?_
              refine x_iald (pc := 64) hC dX12_mark_64 (mo_outTo M).2.1 (by omega) (by rw [(mo_outTo M).2.2]; omega) ?_
              refine x_icmp_ge (pc := 65) hC 100 dX12_mark_65 (by decide) (by omega) (by omega) (fun b65 => ?_) (fun b65 => ?_)
              · have hj2 : j = q.2.1 := by omega
                subst hj2
                refine x_bipush (pc := 100) hC dX12_mark_100 (by decide) ?_
                refine x_iload_n (pc := 102) hC dX12_mark_102 rfl ?_
                refine x_imul (pc := 103) hC dX12_mark_103 ?_
                refine x_aload_n (pc := 104) hC dX12_mark_104 rfl ?_
                refine x_getO (pc := 105) hC gf_X12_46 dX12_mark_105 M.1 (mo_inTo M).1 ?_
                refine x_iload_n (pc := 108) hC dX12_mark_108 rfl ?_
                refine x_iald (pc := 109) hC dX12_mark_109 (mo_inTo M).2.1 (by omega) (by rw [(mo_inTo M).2.2]; omega) ?_
                refine x_aload_n (pc := 110) hC dX12_mark_110 rfl ?_
                refine x_getO (pc := 111) hC gf_X12_43 dX12_mark_111 M.1 (mo_inFrom M).1 ?_
                refine x_iload_n (pc := 114) hC dX12_mark_114 rfl ?_
                refine x_iald (pc := 115) hC dX12_mark_115 (mo_inFrom M).2.1 (by omega) (by rw [(mo_inFrom M).2.2]; omega) ?_
                refine x_isub (pc := 116) hC dX12_mark_116 ?_
                refine x_iadd (pc := 117) hC dX12_mark_117 ?_
                refine x_istore_n (pc := 118) hC dX12_mark_118 (Nat.le_of_ble_eq_true rfl) ?_
                dsimp only [List.set]
                refine x_aload_n (pc := 119) hC dX12_mark_119 rfl ?_
                refine x_getO (pc := 120) hC gf_X12_43 dX12_mark_120 M.1 (mo_inFrom M).1 ?_
                refine x_iload_n (pc := 123) hC dX12_mark_123 rfl ?_
                refine x_iald (pc := 124) hC dX12_mark_124 (mo_inFrom M).2.1 (by omega) (by rw [(mo_inFrom M).2.2]; omega) ?_
                refine x_istore (pc := 125) hC dX12_mark_125 (Nat.le_of_ble_eq_true rfl) ?_
                dsimp only [List.set]
                rw [m3]
                refine lpB (q.2.2.2 - q.2.2.1).toNat q.2.2.1 _ (by omega) (by omega) (by omega) ?_
                rw [seg_nil (Int.le_refl _), seg_len, m4, hh]
                simp only [List.foldl_nil]
                have : (((q.2.2.2 - q.2.2.1).toNat : Nat) : Int) = q.2.2.2 - q.2.2.1 := by omega
                rw [this]
                rfl
              · refine x_bipush (pc := 68) hC dX12_mark_68 (by decide) ?_
                refine x_iload_n (pc := 70) hC dX12_mark_70 rfl ?_
                refine x_imul (pc := 71) hC dX12_mark_71 ?_
                refine x_aload_n (pc := 72) hC dX12_mark_72 rfl ?_
                refine x_getO (pc := 73) hC gf_X12_22 dX12_mark_73 M.1 (mo_line M).1 ?_
                refine x_bipush (pc := 76) hC dX12_mark_76 (by decide) ?_
                refine x_aload_n (pc := 78) hC dX12_mark_78 rfl ?_
                refine x_getO (pc := 79) hC gf_X12_13 dX12_mark_79 M.1 (mo_parent M).1 ?_
                refine x_iload_n (pc := 82) hC dX12_mark_82 rfl ?_
                refine x_iald (pc := 83) hC dX12_mark_83 (mo_parent M).2.1 (by omega) (by rw [(mo_parent M).2.2]; omega) ?_
                rw [e2]
                refine x_imul (pc := 84) hC dX12_mark_84 ?_
                refine x_iload (pc := 85) hC dX12_mark_85 rfl ?_
                refine x_iadd (pc := 87) hC dX12_mark_87 ?_
                refine x_iald (pc := 88) hC dX12_mark_88 (mo_line M).2.1 (by omega) (by rw [(mo_line M).2.2]; omega) ?_
                have hlv := hln (16 * I (o + 2) c + j)
                refine x_mS (pc := 89) hC cs_X12_175 dX12_mark_89 (m_signOf hlv) rfl (by decide) rfl rfl (Nat.le_of_ble_eq_true rfl) ?_
                refine x_iadd (pc := 92) hC dX12_mark_92 ?_
                refine x_istore_n (pc := 93) hC dX12_mark_93 (Nat.le_of_ble_eq_true rfl) ?_
                dsimp only [List.set]
                refine x_iinc (pc := 94) hC dX12_mark_94 rfl ?_
                dsimp only [List.set]
                refine x_goto (pc := 97) hC 57 dX12_mark_97 (by decide) ?_
                refine ihn (j + 1) _ (by omega) (by omega) (by omega) ?_
                rw [hsl_step 0 _ _ _ (by omega), ← hh, show rwI I o (I (o + 2) c) j = B (o + 5) (16 * I (o + 2) c + j) by rw [e5]]
          refine x_bipush (pc := 30) hC dX12_mark_30 (by decide) ?_
          refine x_iload_n (pc := 32) hC dX12_mark_32 rfl ?_
          refine x_imul (pc := 33) hC dX12_mark_33 ?_
          refine x_aload_n (pc := 34) hC dX12_mark_34 rfl ?_
          refine x_getO (pc := 35) hC gf_X12_40 dX12_mark_35 M.1 (mo_outTo M).1 ?_
          refine x_iload_n (pc := 38) hC dX12_mark_38 rfl ?_
          refine x_iald (pc := 39) hC dX12_mark_39 (mo_outTo M).2.1 (by omega) (by rw [(mo_outTo M).2.2]; omega) ?_
          refine x_aload_n (pc := 40) hC dX12_mark_40 rfl ?_
          refine x_getO (pc := 41) hC gf_X12_37 dX12_mark_41 M.1 (mo_outFrom M).1 ?_
          refine x_iload_n (pc := 44) hC dX12_mark_44 rfl ?_
          refine x_iald (pc := 45) hC dX12_mark_45 (mo_outFrom M).2.1 (by omega) (by rw [(mo_outFrom M).2.2]; omega) ?_
          refine x_isub (pc := 46) hC dX12_mark_46 ?_
          refine x_iadd (pc := 47) hC dX12_mark_47 ?_
          refine x_istore_n (pc := 48) hC dX12_mark_48 (Nat.le_of_ble_eq_true rfl) ?_
          dsimp only [List.set]
          refine x_aload_n (pc := 49) hC dX12_mark_49 rfl ?_
          refine x_getO (pc := 50) hC gf_X12_37 dX12_mark_50 M.1 (mo_outFrom M).1 ?_
          refine x_iload_n (pc := 53) hC dX12_mark_53 rfl ?_
          refine x_iald (pc := 54) hC dX12_mark_54 (mo_outFrom M).2.1 (by omega) (by rw [(mo_outFrom M).2.2]; omega) ?_
          refine x_istore (pc := 55) hC dX12_mark_55 (Nat.le_of_ble_eq_true rfl) ?_
          dsimp only [List.set]
          rw [m1]
          refine lpA (q.2.1 - q.1).toNat q.1 _ (by omega) (by omega) (by omega) ?_
          rw [seg_nil (Int.le_refl _), seg_len, m2, hh]
          simp only [List.foldl_nil]
          have : (((q.2.1 - q.1).toNat : Nat) : Int) = q.2.1 - q.1 := by omega
          rw [this]
    refine x_aload_n (pc := 0) hC dX12_mark_0 rfl ?_
    refine x_iload_n (pc := 1) hC dX12_mark_1 rfl ?_
    refine x_mV (pc := 2) hC cv_X12_171 dX12_mark_2 (m_isCommit M hcr (by omega)) M.1 rfl (by decide) rfl rfl (Nat.le_of_ble_eq_true rfl) ?_
    refine x_ifB_ne (pc := 5) hC 10 dX12_mark_5 (by decide) (fun b5 => ?_) (fun b5 => ?_)
    · refine x_aload_n (pc := 10) hC dX12_mark_10 rfl ?_
      refine x_iload_n (pc := 11) hC dX12_mark_11 rfl ?_
      refine x_mVx (pc := 12) hC cv_X12_162 dX12_mark_12 (m_change M hl (by omega) (hm.up hc.1 hc.2)) M.1 rfl (by decide) rfl rfl (Nat.le_of_ble_eq_true rfl) ?_
      rintro v B ⟨rfl, hB, hBp, hBm⟩
      dsimp only [Option.toList, List.nil_append]
      rw [← hl1] at hBp hBm
      refine x_aload_n (pc := 15) hC dX12_mark_15 rfl ?_
      refine x_getI (pc := 16) hC gf_X12_151 dX12_mark_16 M.1 ?_
      refine x_istore_n (pc := 19) hC dX12_mark_19 (Nat.le_of_ble_eq_true rfl) ?_
      dsimp only [List.set]
      refine x_iconst (pc := 20) hC dX12_mark_20 ?_
      refine x_istore_n (pc := 21) hC dX12_mark_21 (Nat.le_of_ble_eq_true rfl) ?_
      dsimp only [List.set]
      refine main B hB hBp hBm l.length 0 _ _ (by omega) (by omega) ?_
      rw [hBp]
      simp [hsC, chgL]
    · contradiction
  · refine x_aload_n (pc := 0) hC dX12_mark_0 rfl ?_
    refine x_iload_n (pc := 1) hC dX12_mark_1 rfl ?_
    refine x_mV (pc := 2) hC cv_X12_171 dX12_mark_2 (m_isCommit M hcr (by omega)) M.1 rfl (by decide) rfl rfl (Nat.le_of_ble_eq_true rfl) ?_
    refine x_ifB_ne (pc := 5) hC 10 dX12_mark_5 (by decide) (fun b5 => ?_) (fun b5 => ?_)
    · contradiction
    · refine x_iconst (pc := 8) hC dX12_mark_8 ?_
      refine x_iret (pc := 9) hC rfl dX12_mark_9 ?_
      exact ⟨⟨by unfold mkR; rw [if_neg hc], scr.rf⟩, rfl, rfl, rfl, rfl⟩

set_option maxHeartbeats 4000000 in
set_option maxRecDepth 100000 in
theorem m_alike {G : ax_G} {T : Nat → Nat} {N : Nat → Int} {I : Nat → Int → Int} {R : Nat → Int → Option Nat} {z o : Nat} (M : axMo T N R o) {c d : Int} (hm : miC I o) (hcr : ax_r c) (hdr : ax_r d) : axEx G YX12_alike 6 [vR o, vI c, vI d] T N I R z (fun r1 I1 => r1 = some (vI (alR I o c d)) ∧ scr I I1 o) := by

  refine ax_enter (by decide) (Nat.le_of_ble_eq_true rfl) (ax_cat rfl) (fun f hC => ?_)
  show axX G f 0 0 _ 0 [vR o, vI c, vI d] [] T N I R z 0 0
  have hmm := hm.1
  refine x_aload_n (pc := 0) hC dX12_alike_0 rfl ?_
  refine x_iload_n (pc := 1) hC dX12_alike_1 rfl ?_
  refine x_mV (pc := 2) hC cv_X12_171 dX12_alike_2 (m_isCommit M hcr (by omega)) M.1 rfl (by decide) rfl rfl (Nat.le_of_ble_eq_true rfl) ?_
  refine x_ifB_eq (pc := 5) hC 16 dX12_alike_5 (by decide) (fun b5 => ?_) (fun b5 => ?_)
  · refine x_iconst (pc := 16) hC dX12_alike_16 ?_
    refine x_iret (pc := 17) hC rfl dX12_alike_17 ?_
    exact ⟨⟨by unfold alR; rw [if_neg (fun h => by first | exact absurd h.1 (by assumption) | exact absurd h.2 (by assumption))], scr.rf⟩, rfl, rfl, rfl, rfl⟩
  · refine x_aload_n (pc := 8) hC dX12_alike_8 rfl ?_
    refine x_iload_n (pc := 9) hC dX12_alike_9 rfl ?_
    refine x_mV (pc := 10) hC cv_X12_171 dX12_alike_10 (m_isCommit M hdr (by omega)) M.1 rfl (by decide) rfl rfl (Nat.le_of_ble_eq_true rfl) ?_
    refine x_ifB_ne (pc := 13) hC 18 dX12_alike_13 (by decide) (fun b13 => ?_) (fun b13 => ?_)
    · refine x_aload_n (pc := 18) hC dX12_alike_18 rfl ?_
      refine x_iload_n (pc := 19) hC dX12_alike_19 rfl ?_
      refine x_iload_n (pc := 20) hC dX12_alike_20 rfl ?_
      refine x_mVx (pc := 21) hC cv_X12_179 dX12_alike_21 (m_areAlike M hm.2.1 (by omega) (by omega) (hm.up b5.1 b5.2) (hm.up b13.1 b13.2)) M.1 rfl (by decide) rfl rfl (Nat.le_of_ble_eq_true rfl) ?_
      rintro v J ⟨rfl, hJ⟩
      dsimp only [Option.toList, List.cons_append, List.nil_append]
      refine x_ifB_eq (pc := 24) hC 31 dX12_alike_24 (by decide) (fun b24 => ?_) (fun b24 => ?_)
      · refine x_iconst (pc := 31) hC dX12_alike_31 ?_
        refine x_iret (pc := 32) hC rfl dX12_alike_32 ?_
        exact ⟨⟨by unfold alR; rw [if_pos ⟨b5, b13⟩]; first | rw [bI_t (by assumption)] | rw [bI_f (by assumption)], hJ⟩, rfl, rfl, rfl, rfl⟩
      · refine x_iconst (pc := 27) hC dX12_alike_27 ?_
        refine x_goto (pc := 28) hC 32 dX12_alike_28 (by decide) ?_
        refine x_iret (pc := 32) hC rfl dX12_alike_32 ?_
        exact ⟨⟨by unfold alR; rw [if_pos ⟨b5, b13⟩]; first | rw [bI_t (by assumption)] | rw [bI_f (by assumption)], hJ⟩, rfl, rfl, rfl, rfl⟩
    · refine x_iconst (pc := 16) hC dX12_alike_16 ?_
      refine x_iret (pc := 17) hC rfl dX12_alike_17 ?_
      exact ⟨⟨by unfold alR; rw [if_neg (fun h => by first | exact absurd h.1 (by assumption) | exact absurd h.2 (by assumption))], scr.rf⟩, rfl, rfl, rfl, rfl⟩

set_option maxHeartbeats 4000000 in
set_option maxRecDepth 100000 in
theorem m_piece {G : ax_G} {T : Nat → Nat} {N : Nat → Int} {I : Nat → Int → Int} {R : Nat → Int → Option Nat} {z o : Nat} (M : axMo T N R o) {c k w : Int} (hm : miC I o) (hcr : ax_r c) (hkr : ax_r k) (hwr : ax_r w) : axEx G YX12_piece 4 [vR o, vI c, vI k, vI w] T N I R z (fun r1 I1 => r1 = some (vI (pcR I o c k w)) ∧ scr I I1 o) := by

  refine ax_enter (by decide) (Nat.le_of_ble_eq_true rfl) (ax_cat rfl) (fun f hC => ?_)
  show axX G f 0 0 _ 0 [vR o, vI c, vI k, vI w, vU, vU] [] T N I R z 0 0
  have hmm := hm.1
  have hl := hm.2.1
  have hpo := pcsC_ok hl c
  have hcl := chgC_len I o c
  refine x_aload_n (pc := 0) hC dX12_piece_0 rfl ?_
  refine x_iload_n (pc := 1) hC dX12_piece_1 rfl ?_
  refine x_mV (pc := 2) hC cv_X12_171 dX12_piece_2 (m_isCommit M hcr (by omega)) M.1 rfl (by decide) rfl rfl (Nat.le_of_ble_eq_true rfl) ?_
  refine x_ifB_ne (pc := 5) hC 10 dX12_piece_5 (by decide) (fun b5 => ?_) (fun b5 => ?_)
  · refine x_aload_n (pc := 10) hC dX12_piece_10 rfl ?_
    refine x_iload_n (pc := 11) hC dX12_piece_11 rfl ?_
    refine x_mVx (pc := 12) hC cv_X12_162 dX12_piece_12 (m_change M hl (by omega) (hm.up b5.1 b5.2)) M.1 rfl (by decide) rfl rfl (Nat.le_of_ble_eq_true rfl) ?_
    rintro v B ⟨rfl, hB, hBp, hBm⟩
    dsimp only [Option.toList, List.nil_append]
    refine x_iload_n (pc := 15) hC dX12_piece_15 rfl ?_
    refine x_iconst (pc := 16) hC dX12_piece_16 ?_
    refine x_aload_n (pc := 17) hC dX12_piece_17 rfl ?_
    refine x_getI (pc := 18) hC gf_X12_151 dX12_piece_18 M.1 ?_
    refine x_iconst (pc := 21) hC dX12_piece_21 ?_
    refine x_isub (pc := 22) hC dX12_piece_22 ?_
    refine x_mS (pc := 23) hC cs_X12_139 dX12_piece_23 (m_within hkr (by decide) (by omega)) rfl (by decide) rfl rfl (Nat.le_of_ble_eq_true rfl) ?_
    refine x_ifB_ne (pc := 26) hC 31 dX12_piece_26 (by decide) (fun b26 => ?_) (fun b26 => ?_)
    · have hk : 0 ≤ k ∧ k < (pcsC I o c).length := by omega
      have ek : ((k.toNat : Nat) : Int) = k := Int.toNat_of_nonneg hk.1
      obtain ⟨q, hq⟩ : ∃ q, (pcsC I o c)[k.toNat]? = some q := ⟨_, List.getElem?_eq_getElem (by omega)⟩
      obtain ⟨q1, q2, q3, q4, q5, q6⟩ := hpo.1 q (List.mem_of_getElem? hq)
      obtain ⟨m1, m2, m3, m4⟩ := hBm k.toNat q hq
      rw [ek] at m1 m2 m3 m4
      have hup0 : c ≠ 0 := by
        intro h0
        simp [pcsC, h0] at hq
      have hup := hm.up b5.1 b5.2 hup0
      have e2 : B (o + 2) = I (o + 2) := hB.1 (o + 2) (by omega) (by omega)
      have e5 : B (o + 5) = I (o + 5) := hB.1 (o + 5) (by omega) (by omega)
      have hR : pcR I o c k w = pcV (seg (rwI I o (I (o + 2) c)) q.1 q.2.1, seg (rwI I o c) q.2.2.1 q.2.2.2) w := by
        unfold pcR
        rw [if_pos ⟨b5, by omega⟩]
        congr 1
        rw [List.getD_eq_getElem?_getD]
        simp [chgC, chgL, hq]
      refine x_aload_n (pc := 31) hC dX12_piece_31 rfl ?_
      refine x_getO (pc := 32) hC gf_X12_40 dX12_piece_32 M.1 (mo_outTo M).1 ?_
      refine x_iload_n (pc := 35) hC dX12_piece_35 rfl ?_
      refine x_iald (pc := 36) hC dX12_piece_36 (mo_outTo M).2.1 (by omega) (by rw [(mo_outTo M).2.2]; omega) ?_
      refine x_aload_n (pc := 37) hC dX12_piece_37 rfl ?_
      refine x_getO (pc := 38) hC gf_X12_37 dX12_piece_38 M.1 (mo_outFrom M).1 ?_
      refine x_iload_n (pc := 41) hC dX12_piece_41 rfl ?_
      refine x_iald (pc := 42) hC dX12_piece_42 (mo_outFrom M).2.1 (by omega) (by rw [(mo_outFrom M).2.2]; omega) ?_
      refine x_isub (pc := 43) hC dX12_piece_43 ?_
      refine x_istore (pc := 44) hC dX12_piece_44 (Nat.le_of_ble_eq_true rfl) ?_
      dsimp only [List.set]
      rw [m2, m1]
      refine x_aload_n (pc := 46) hC dX12_piece_46 rfl ?_
      refine x_getO (pc := 47) hC gf_X12_46 dX12_piece_47 M.1 (mo_inTo M).1 ?_
      refine x_iload_n (pc := 50) hC dX12_piece_50 rfl ?_
      refine x_iald (pc := 51) hC dX12_piece_51 (mo_inTo M).2.1 (by omega) (by rw [(mo_inTo M).2.2]; omega) ?_
      refine x_aload_n (pc := 52) hC dX12_piece_52 rfl ?_
      refine x_getO (pc := 53) hC gf_X12_43 dX12_piece_53 M.1 (mo_inFrom M).1 ?_
      refine x_iload_n (pc := 56) hC dX12_piece_56 rfl ?_
      refine x_iald (pc := 57) hC dX12_piece_57 (mo_inFrom M).2.1 (by omega) (by rw [(mo_inFrom M).2.2]; omega) ?_
      refine x_isub (pc := 58) hC dX12_piece_58 ?_
      refine x_istore (pc := 59) hC dX12_piece_59 (Nat.le_of_ble_eq_true rfl) ?_
      dsimp only [List.set]
      rw [m4, m3]
      refine x_iload_n (pc := 61) hC dX12_piece_61 rfl ?_
      refine x_bipush (pc := 62) hC dX12_piece_62 (by decide) ?_
      refine x_bipush (pc := 64) hC dX12_piece_64 (by decide) ?_
      refine x_mS (pc := 66) hC cs_X12_139 dX12_piece_66 (m_within hwr (by decide) (by decide)) rfl (by decide) rfl rfl (Nat.le_of_ble_eq_true rfl) ?_
      refine x_ifB_eq (pc := 69) hC 113 dX12_piece_69 (by decide) (fun b69 => ?_) (fun b69 => ?_)
      · refine x_iload_n (pc := 113) hC dX12_piece_113 rfl ?_
        refine x_bipush (pc := 114) hC dX12_piece_114 (by decide) ?_
        refine x_bipush (pc := 116) hC dX12_piece_116 (by decide) ?_
        refine x_mS (pc := 118) hC cs_X12_139 dX12_piece_118 (m_within hwr (by decide) (by decide)) rfl (by decide) rfl rfl (Nat.le_of_ble_eq_true rfl) ?_
        refine x_ifB_eq (pc := 121) hC 160 dX12_piece_121 (by decide) (fun b121 => ?_) (fun b121 => ?_)
        · refine x_iload_n (pc := 160) hC dX12_piece_160 rfl ?_
          refine x_if_ne (pc := 161) hC 169 dX12_piece_161 (by decide) (by omega) (fun b161 => ?_) (fun b161 => ?_)
          · refine x_iload_n (pc := 169) hC dX12_piece_169 rfl ?_
            refine x_iconst (pc := 170) hC dX12_piece_170 ?_
            refine x_icmp_ne (pc := 171) hC 179 dX12_piece_171 (by decide) (by omega) (by omega) (fun b171 => ?_) (fun b171 => ?_)
            · refine x_bipush (pc := 179) hC dX12_piece_179 (by decide) ?_
              refine x_iret (pc := 181) hC rfl dX12_piece_181 ?_
              refine ⟨⟨?_, hB.scr⟩, rfl, rfl, rfl, rfl⟩
              rw [hR]
              unfold pcV
              rw [if_neg b69, if_neg b121]
              simp only [seg_len]
              first
              | rw [if_pos (by omega)]; congr 2; omega
              | rw [if_neg (by omega), if_pos (by omega)]; congr 2; omega
              | rw [if_neg (by omega), if_neg (by omega)]
            · refine x_iload (pc := 174) hC dX12_piece_174 rfl ?_
              refine x_goto (pc := 176) hC 181 dX12_piece_176 (by decide) ?_
              refine x_iret (pc := 181) hC rfl dX12_piece_181 ?_
              refine ⟨⟨?_, hB.scr⟩, rfl, rfl, rfl, rfl⟩
              rw [hR]
              unfold pcV
              rw [if_neg b69, if_neg b121]
              simp only [seg_len]
              first
              | rw [if_pos (by omega)]; congr 2; omega
              | rw [if_neg (by omega), if_pos (by omega)]; congr 2; omega
              | rw [if_neg (by omega), if_neg (by omega)]
          · refine x_iload (pc := 164) hC dX12_piece_164 rfl ?_
            refine x_goto (pc := 166) hC 181 dX12_piece_166 (by decide) ?_
            refine x_iret (pc := 181) hC rfl dX12_piece_181 ?_
            refine ⟨⟨?_, hB.scr⟩, rfl, rfl, rfl, rfl⟩
            rw [hR]
            unfold pcV
            rw [if_neg b69, if_neg b121]
            simp only [seg_len]
            first
            | rw [if_pos (by omega)]; congr 2; omega
            | rw [if_neg (by omega), if_pos (by omega)]; congr 2; omega
            | rw [if_neg (by omega), if_neg (by omega)]
        · refine x_iload_n (pc := 124) hC dX12_piece_124 rfl ?_
          refine x_bipush (pc := 125) hC dX12_piece_125 (by decide) ?_
          refine x_isub (pc := 127) hC dX12_piece_127 ?_
          refine x_iload (pc := 128) hC dX12_piece_128 rfl ?_
          refine x_icmp_ge (pc := 130) hC 157 dX12_piece_130 (by decide) (by omega) (by omega) (fun b130 => ?_) (fun b130 => ?_)
          · refine x_bipush (pc := 157) hC dX12_piece_157 (by decide) ?_
            refine x_iret (pc := 159) hC rfl dX12_piece_159 ?_
            refine ⟨⟨?_, hB.scr⟩, rfl, rfl, rfl, rfl⟩
            rw [hR]
            unfold pcV
            rw [if_neg b69, if_pos b121, atO_seg q5 (by omega)]
            first
            | (rw [if_pos (by omega), e5]; simp only [rwI]; congr 3; omega)
            | rw [if_neg (by omega)]
          · refine x_aload_n (pc := 133) hC dX12_piece_133 rfl ?_
            refine x_getO (pc := 134) hC gf_X12_22 dX12_piece_134 M.1 (mo_line M).1 ?_
            refine x_bipush (pc := 137) hC dX12_piece_137 (by decide) ?_
            refine x_iload_n (pc := 139) hC dX12_piece_139 rfl ?_
            refine x_imul (pc := 140) hC dX12_piece_140 ?_
            refine x_aload_n (pc := 141) hC dX12_piece_141 rfl ?_
            refine x_getO (pc := 142) hC gf_X12_43 dX12_piece_142 M.1 (mo_inFrom M).1 ?_
            refine x_iload_n (pc := 145) hC dX12_piece_145 rfl ?_
            refine x_iald (pc := 146) hC dX12_piece_146 (mo_inFrom M).2.1 (by omega) (by rw [(mo_inFrom M).2.2]; omega) ?_
            refine x_iadd (pc := 147) hC dX12_piece_147 ?_
            refine x_iload_n (pc := 148) hC dX12_piece_148 rfl ?_
            rw [m3]
            refine x_iadd (pc := 149) hC dX12_piece_149 ?_
            refine x_bipush (pc := 150) hC dX12_piece_150 (by decide) ?_
            refine x_isub (pc := 152) hC dX12_piece_152 ?_
            refine x_iald (pc := 153) hC dX12_piece_153 (mo_line M).2.1 (by omega) (by rw [(mo_line M).2.2]; omega) ?_
            refine x_goto (pc := 154) hC 159 dX12_piece_154 (by decide) ?_
            refine x_iret (pc := 159) hC rfl dX12_piece_159 ?_
            refine ⟨⟨?_, hB.scr⟩, rfl, rfl, rfl, rfl⟩
            rw [hR]
            unfold pcV
            rw [if_neg b69, if_pos b121, atO_seg q5 (by omega)]
            first
            | (rw [if_pos (by omega), e5]; simp only [rwI]; congr 3; omega)
            | rw [if_neg (by omega)]
      · refine x_iload_n (pc := 72) hC dX12_piece_72 rfl ?_
        refine x_bipush (pc := 73) hC dX12_piece_73 (by decide) ?_
        refine x_isub (pc := 75) hC dX12_piece_75 ?_
        refine x_iload (pc := 76) hC dX12_piece_76 rfl ?_
        refine x_icmp_ge (pc := 78) hC 110 dX12_piece_78 (by decide) (by omega) (by omega) (fun b78 => ?_) (fun b78 => ?_)
        · refine x_bipush (pc := 110) hC dX12_piece_110 (by decide) ?_
          refine x_iret (pc := 112) hC rfl dX12_piece_112 ?_
          refine ⟨⟨?_, hB.scr⟩, rfl, rfl, rfl, rfl⟩
          rw [hR]
          unfold pcV
          rw [if_pos b69, atO_seg q2 (by omega)]
          first
          | (rw [if_pos (by omega), e5]; simp only [rwI]; congr 3; omega)
          | rw [if_neg (by omega)]
        · refine x_aload_n (pc := 81) hC dX12_piece_81 rfl ?_
          refine x_getO (pc := 82) hC gf_X12_22 dX12_piece_82 M.1 (mo_line M).1 ?_
          refine x_bipush (pc := 85) hC dX12_piece_85 (by decide) ?_
          refine x_aload_n (pc := 87) hC dX12_piece_87 rfl ?_
          refine x_getO (pc := 88) hC gf_X12_13 dX12_piece_88 M.1 (mo_parent M).1 ?_
          refine x_iload_n (pc := 91) hC dX12_piece_91 rfl ?_
          refine x_iald (pc := 92) hC dX12_piece_92 (mo_parent M).2.1 (by omega) (by rw [(mo_parent M).2.2]; omega) ?_
          rw [e2]
          refine x_imul (pc := 93) hC dX12_piece_93 ?_
          refine x_aload_n (pc := 94) hC dX12_piece_94 rfl ?_
          refine x_getO (pc := 95) hC gf_X12_37 dX12_piece_95 M.1 (mo_outFrom M).1 ?_
          refine x_iload_n (pc := 98) hC dX12_piece_98 rfl ?_
          refine x_iald (pc := 99) hC dX12_piece_99 (mo_outFrom M).2.1 (by omega) (by rw [(mo_outFrom M).2.2]; omega) ?_
          refine x_iadd (pc := 100) hC dX12_piece_100 ?_
          refine x_iload_n (pc := 101) hC dX12_piece_101 rfl ?_
          rw [m1]
          refine x_iadd (pc := 102) hC dX12_piece_102 ?_
          refine x_bipush (pc := 103) hC dX12_piece_103 (by decide) ?_
          refine x_isub (pc := 105) hC dX12_piece_105 ?_
          refine x_iald (pc := 106) hC dX12_piece_106 (mo_line M).2.1 (by omega) (by rw [(mo_line M).2.2]; omega) ?_
          refine x_goto (pc := 107) hC 112 dX12_piece_107 (by decide) ?_
          refine x_iret (pc := 112) hC rfl dX12_piece_112 ?_
          refine ⟨⟨?_, hB.scr⟩, rfl, rfl, rfl, rfl⟩
          rw [hR]
          unfold pcV
          rw [if_pos b69, atO_seg q2 (by omega)]
          first
          | (rw [if_pos (by omega), e5]; simp only [rwI]; congr 3; omega)
          | rw [if_neg (by omega)]
    · refine x_iconst (pc := 29) hC dX12_piece_29 ?_
      refine x_iret (pc := 30) hC rfl dX12_piece_30 ?_
      exact ⟨⟨by unfold pcR; rw [if_neg (fun h => by have := h.2; omega)], hB.scr⟩, rfl, rfl, rfl, rfl⟩
  · refine x_iconst (pc := 8) hC dX12_piece_8 ?_
    refine x_iret (pc := 9) hC rfl dX12_piece_9 ?_
    exact ⟨⟨by unfold pcR; rw [if_neg (fun h => absurd h.1 (by assumption))], scr.rf⟩, rfl, rfl, rfl, rfl⟩

set_option maxHeartbeats 4000000 in
set_option maxRecDepth 100000 in
theorem m_ofCommit {G : ax_G} {T : Nat → Nat} {N : Nat → Int} {I : Nat → Int → Int} {R : Nat → Int → Option Nat} {z o : Nat} (M : axMo T N R o) {c w : Int} (hm : miC I o) (hcr : ax_r c) (hwr : ax_r w) : axEx G YX12_ofCommit 4 [vR o, vI c, vI w] T N I R z (fun r1 I1 => r1 = some (vI (ofR I o c w)) ∧ scr I I1 o) := by

  refine ax_enter (by decide) (Nat.le_of_ble_eq_true rfl) (ax_cat rfl) (fun f hC => ?_)
  show axX G f 0 0 _ 0 [vR o, vI c, vI w] [] T N I R z 0 0
  have hmm := hm.1
  have hl := hm.2.1
  have hsz := hl.2 c
  refine x_aload_n (pc := 0) hC dX12_ofCommit_0 rfl ?_
  refine x_iload_n (pc := 1) hC dX12_ofCommit_1 rfl ?_
  refine x_mV (pc := 2) hC cv_X12_171 dX12_ofCommit_2 (m_isCommit M hcr (by omega)) M.1 rfl (by decide) rfl rfl (Nat.le_of_ble_eq_true rfl) ?_
  refine x_ifB_ne (pc := 5) hC 10 dX12_ofCommit_5 (by decide) (fun b5 => ?_) (fun b5 => ?_)
  · refine x_iload_n (pc := 10) hC dX12_ofCommit_10 rfl ?_
    refine x_bipush (pc := 11) hC dX12_ofCommit_11 (by decide) ?_
    refine x_bipush (pc := 13) hC dX12_ofCommit_13 (by decide) ?_
    refine x_mS (pc := 15) hC cs_X12_139 dX12_ofCommit_15 (m_within hwr (by decide) (by decide)) rfl (by decide) rfl rfl (Nat.le_of_ble_eq_true rfl) ?_
    refine x_ifB_eq (pc := 18) hC 54 dX12_ofCommit_18 (by decide) (fun b18 => ?_) (fun b18 => ?_)
    · refine x_iload_n (pc := 54) hC dX12_ofCommit_54 rfl ?_
      by_cases t55_0 : w = 0
      · refine x_tswIn (pc := 55) hC 92 dX12_ofCommit_55 hwr (by omega) (by omega) (by rw [t55_0]; rfl) (by decide) ?_
        refine x_aload_n (pc := 92) hC dX12_ofCommit_92 rfl ?_
        refine x_getO (pc := 93) hC gf_X12_7 dX12_ofCommit_93 M.1 (mo_kind M).1 ?_
        refine x_iload_n (pc := 96) hC dX12_ofCommit_96 rfl ?_
        refine x_iald (pc := 97) hC dX12_ofCommit_97 (mo_kind M).2.1 (by omega) (by rw [(mo_kind M).2.2]; omega) ?_
        refine x_iret (pc := 98) hC rfl dX12_ofCommit_98 ?_
        refine ⟨⟨?_, scr.rf⟩, rfl, rfl, rfl, rfl⟩
        unfold ofR
        rw [if_pos b5, if_neg b18, if_pos (by omega)]
      · skip
        by_cases t55_1 : w = 1
        · refine x_tswIn (pc := 55) hC 99 dX12_ofCommit_55 hwr (by omega) (by omega) (by rw [t55_1]; rfl) (by decide) ?_
          refine x_aload_n (pc := 99) hC dX12_ofCommit_99 rfl ?_
          refine x_getO (pc := 100) hC gf_X12_13 dX12_ofCommit_100 M.1 (mo_parent M).1 ?_
          refine x_iload_n (pc := 103) hC dX12_ofCommit_103 rfl ?_
          refine x_iald (pc := 104) hC dX12_ofCommit_104 (mo_parent M).2.1 (by omega) (by rw [(mo_parent M).2.2]; omega) ?_
          refine x_iret (pc := 105) hC rfl dX12_ofCommit_105 ?_
          refine ⟨⟨?_, scr.rf⟩, rfl, rfl, rfl, rfl⟩
          unfold ofR
          rw [if_pos b5, if_neg b18, if_neg (by omega), if_pos (by omega)]
        · skip
          by_cases t55_2 : w = 2
          · refine x_tswIn (pc := 55) hC 106 dX12_ofCommit_55 hwr (by omega) (by omega) (by rw [t55_2]; rfl) (by decide) ?_
            refine x_aload_n (pc := 106) hC dX12_ofCommit_106 rfl ?_
            refine x_getO (pc := 107) hC gf_X12_25 dX12_ofCommit_107 M.1 (mo_size M).1 ?_
            refine x_iload_n (pc := 110) hC dX12_ofCommit_110 rfl ?_
            refine x_iald (pc := 111) hC dX12_ofCommit_111 (mo_size M).2.1 (by omega) (by rw [(mo_size M).2.2]; omega) ?_
            refine x_iret (pc := 112) hC rfl dX12_ofCommit_112 ?_
            refine ⟨⟨?_, scr.rf⟩, rfl, rfl, rfl, rfl⟩
            unfold ofR
            rw [if_pos b5, if_neg b18, if_neg (by omega), if_neg (by omega), if_pos (by omega)]
          · skip
            by_cases t55_3 : w = 3
            · refine x_tswIn (pc := 55) hC 113 dX12_ofCommit_55 hwr (by omega) (by omega) (by rw [t55_3]; rfl) (by decide) ?_
              refine x_aload_n (pc := 113) hC dX12_ofCommit_113 rfl ?_
              refine x_iload_n (pc := 114) hC dX12_ofCommit_114 rfl ?_
              refine x_mVx (pc := 115) hC cv_X12_162 dX12_ofCommit_115 (m_change M hl (by omega) (hm.up b5.1 b5.2)) M.1 rfl (by decide) rfl rfl (Nat.le_of_ble_eq_true rfl) ?_
              rintro v B ⟨rfl, hB, hBp, hBm⟩
              dsimp only [Option.toList, List.nil_append]
              refine x_aload_n (pc := 118) hC dX12_ofCommit_118 rfl ?_
              refine x_getI (pc := 119) hC gf_X12_151 dX12_ofCommit_119 M.1 ?_
              refine x_iret (pc := 122) hC rfl dX12_ofCommit_122 ?_
              refine ⟨⟨?_, hB.scr⟩, rfl, rfl, rfl, rfl⟩
              unfold ofR
              rw [if_pos b5, if_neg b18, if_neg (by omega), if_neg (by omega), if_neg (by omega), if_pos (by omega)]
              rw [hBp, chgC_len]
            · skip
              by_cases t55_4 : w = 4
              · refine x_tswIn (pc := 55) hC 123 dX12_ofCommit_55 hwr (by omega) (by omega) (by rw [t55_4]; rfl) (by decide) ?_
                refine x_aload_n (pc := 123) hC dX12_ofCommit_123 rfl ?_
                refine x_iload_n (pc := 124) hC dX12_ofCommit_124 rfl ?_
                refine x_mV (pc := 125) hC cv_X12_198 dX12_ofCommit_125 (m_far M hmm.2 hm.2.2.1 b5.1 b5.2) M.1 rfl (by decide) rfl rfl (Nat.le_of_ble_eq_true rfl) ?_
                refine x_iret (pc := 128) hC rfl dX12_ofCommit_128 ?_
                refine ⟨⟨?_, scr.rf⟩, rfl, rfl, rfl, rfl⟩
                unfold ofR
                rw [if_pos b5, if_neg b18, if_neg (by omega), if_neg (by omega), if_neg (by omega), if_neg (by omega), if_pos (by omega)]
              · skip
                by_cases t55_5 : w = 5
                · refine x_tswIn (pc := 55) hC 129 dX12_ofCommit_55 hwr (by omega) (by omega) (by rw [t55_5]; rfl) (by decide) ?_
                  refine x_aload_n (pc := 129) hC dX12_ofCommit_129 rfl ?_
                  refine x_getO (pc := 130) hC gf_X12_16 dX12_ofCommit_130 M.1 (mo_origin M).1 ?_
                  refine x_iload_n (pc := 133) hC dX12_ofCommit_133 rfl ?_
                  refine x_iald (pc := 134) hC dX12_ofCommit_134 (mo_origin M).2.1 (by omega) (by rw [(mo_origin M).2.2]; omega) ?_
                  refine x_iret (pc := 135) hC rfl dX12_ofCommit_135 ?_
                  refine ⟨⟨?_, scr.rf⟩, rfl, rfl, rfl, rfl⟩
                  unfold ofR
                  rw [if_pos b5, if_neg b18, if_neg (by omega), if_neg (by omega), if_neg (by omega), if_neg (by omega), if_neg (by omega), if_pos (by omega)]
                · skip
                  refine x_tswOut (pc := 55) hC 136 dX12_ofCommit_55 (by decide) hwr (by omega) ?_
                  refine x_bipush (pc := 136) hC dX12_ofCommit_136 (by decide) ?_
                  refine x_iret (pc := 138) hC rfl dX12_ofCommit_138 ?_
                  refine ⟨⟨?_, scr.rf⟩, rfl, rfl, rfl, rfl⟩
                  unfold ofR
                  rw [if_pos b5, if_neg b18, if_neg (by omega), if_neg (by omega), if_neg (by omega), if_neg (by omega), if_neg (by omega), if_neg (by omega)]
    · refine x_iload_n (pc := 21) hC dX12_ofCommit_21 rfl ?_
      refine x_bipush (pc := 22) hC dX12_ofCommit_22 (by decide) ?_
      refine x_isub (pc := 24) hC dX12_ofCommit_24 ?_
      refine x_aload_n (pc := 25) hC dX12_ofCommit_25 rfl ?_
      refine x_getO (pc := 26) hC gf_X12_25 dX12_ofCommit_26 M.1 (mo_size M).1 ?_
      refine x_iload_n (pc := 29) hC dX12_ofCommit_29 rfl ?_
      refine x_iald (pc := 30) hC dX12_ofCommit_30 (mo_size M).2.1 (by omega) (by rw [(mo_size M).2.2]; omega) ?_
      refine x_icmp_ge (pc := 31) hC 51 dX12_ofCommit_31 (by decide) (by omega) (by omega) (fun b31 => ?_) (fun b31 => ?_)
      · refine x_bipush (pc := 51) hC dX12_ofCommit_51 (by decide) ?_
        refine x_iret (pc := 53) hC rfl dX12_ofCommit_53 ?_
        exact ⟨⟨by unfold ofR; rw [if_pos b5, if_pos b18]; first | rw [if_pos (by omega)] | rw [if_neg (by omega)], scr.rf⟩, rfl, rfl, rfl, rfl⟩
      · refine x_aload_n (pc := 34) hC dX12_ofCommit_34 rfl ?_
        refine x_getO (pc := 35) hC gf_X12_22 dX12_ofCommit_35 M.1 (mo_line M).1 ?_
        refine x_bipush (pc := 38) hC dX12_ofCommit_38 (by decide) ?_
        refine x_iload_n (pc := 40) hC dX12_ofCommit_40 rfl ?_
        refine x_imul (pc := 41) hC dX12_ofCommit_41 ?_
        refine x_iload_n (pc := 42) hC dX12_ofCommit_42 rfl ?_
        refine x_iadd (pc := 43) hC dX12_ofCommit_43 ?_
        refine x_bipush (pc := 44) hC dX12_ofCommit_44 (by decide) ?_
        refine x_isub (pc := 46) hC dX12_ofCommit_46 ?_
        refine x_iald (pc := 47) hC dX12_ofCommit_47 (mo_line M).2.1 (by omega) (by rw [(mo_line M).2.2]; omega) ?_
        refine x_goto (pc := 48) hC 53 dX12_ofCommit_48 (by decide) ?_
        refine x_iret (pc := 53) hC rfl dX12_ofCommit_53 ?_
        exact ⟨⟨by unfold ofR; rw [if_pos b5, if_pos b18]; first | rw [if_pos (by omega)] | rw [if_neg (by omega)], scr.rf⟩, rfl, rfl, rfl, rfl⟩
  · refine x_iconst (pc := 8) hC dX12_ofCommit_8 ?_
    refine x_iret (pc := 9) hC rfl dX12_ofCommit_9 ?_
    exact ⟨⟨by unfold ofR; rw [if_neg b5], scr.rf⟩, rfl, rfl, rfl, rfl⟩

