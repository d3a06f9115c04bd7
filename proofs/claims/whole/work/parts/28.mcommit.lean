/-! THE REFERENCE: commit, resolution, forget, keeps -/
theorem md_row {I : Nat → Int → Int} {o : Nat} {k p g : Int} {q : Nat} (h0 : q ≠ o) (h1 : q < o + 1 ∨ q = o + 5 ∨ o + 6 < q) : mdI I o k p g q = I q := by
  unfold mdI
  rw [axu_row h0, axu_row (by omega), axu_row (by omega), axu_row h0, axu_row (by omega), axu_row (by omega), axu_row (by omega), axu_row h0]
theorem md_o {I : Nat → Int → Int} {o : Nat} {k p g : Int} {j : Int} (h1 : j ≠ 1) (h2 : j ≠ 2) (h3 : j ≠ 3) : mdI I o k p g o j = I o j := by
  unfold mdI
  rw [axu_j h1, axu_a (by omega), axu_a (by omega), axu_j h3, axu_a (by omega), axu_a (by omega), axu_a (by omega), axu_j h2]
theorem md_o2 {I : Nat → Int → Int} {o : Nat} {k p g : Int} : mdI I o k p g o 2 = I o 2 + 1 := by
  unfold mdI
  rw [axu_j (by decide), axu_a (by omega), axu_a (by omega), axu_j (by decide), axu_a (by omega), axu_a (by omega), axu_a (by omega), axu_s]
theorem md_o3 {I : Nat → Int → Int} {o : Nat} {k p g : Int} : mdI I o k p g o 3 = I o 3 + 1 := by
  unfold mdI
  rw [axu_j (by decide), axu_a (by omega), axu_a (by omega), axu_s]
theorem md_o1 {I : Nat → Int → Int} {o : Nat} {k p g : Int} : mdI I o k p g o 1 = mdT k g (I o 1) := by
  unfold mdI
  rw [axu_s]
theorem md_1 {I : Nat → Int → Int} {o : Nat} {k p g : Int} : mdI I o k p g (o + 1) = fun j => if j = I o 2 then k else I (o + 1) j := by
  unfold mdI
  rw [axu_row (by omega), axu_row (by omega), axu_row (by omega), axu_row (by omega), axu_row (by omega), axu_row (by omega)]
  funext j
  by_cases h : j = I o 2
  · rw [if_pos h, h, axu_s]
  · rw [if_neg h, axu_j h, axu_a (by omega)]
theorem md_2 {I : Nat → Int → Int} {o : Nat} {k p g : Int} : mdI I o k p g (o + 2) = fun j => if j = I o 2 then p else I (o + 2) j := by
  unfold mdI
  rw [axu_row (by omega), axu_row (by omega), axu_row (by omega), axu_row (by omega), axu_row (by omega)]
  funext j
  by_cases h : j = I o 2
  · rw [if_pos h, h, axu_s]
  · rw [if_neg h, axu_j h, axu_a (by omega), axu_a (by omega)]
theorem md_3 {I : Nat → Int → Int} {o : Nat} {k p g : Int} : mdI I o k p g (o + 3) = fun j => if j = I o 2 then g else I (o + 3) j := by
  unfold mdI
  rw [axu_row (by omega), axu_row (by omega), axu_row (by omega), axu_row (by omega)]
  funext j
  by_cases h : j = I o 2
  · rw [if_pos h, h, axu_s]
  · rw [if_neg h, axu_j h, axu_a (by omega), axu_a (by omega), axu_a (by omega)]
theorem md_4 {I : Nat → Int → Int} {o : Nat} {k p g : Int} : mdI I o k p g (o + 4) = fun j => if j = I o 2 then I o 3 + 1 else I (o + 4) j := by
  unfold mdI
  rw [axu_row (by omega), axu_row (by omega)]
  funext j
  by_cases h : j = I o 2
  · rw [if_pos h, h, axu_s]
  · rw [if_neg h, axu_j h, axu_a (by omega), axu_a (by omega), axu_a (by omega), axu_a (by omega), axu_a (by omega)]
theorem md_6 {I : Nat → Int → Int} {o : Nat} {k p g : Int} : mdI I o k p g (o + 6) = fun j => if j = I o 2 then 0 else I (o + 6) j := by
  unfold mdI
  rw [axu_row (by omega)]
  funext j
  by_cases h : j = I o 2
  · rw [if_pos h, h, axu_s]
  · rw [if_neg h, axu_j h, axu_a (by omega), axu_a (by omega), axu_a (by omega), axu_a (by omega), axu_a (by omega), axu_a (by omega)]

theorem miS_u0 {I : Nat → Int → Int} {o : Nat} {v : Int} (h : miS I o) : miS (ax_u I o 0 v) o := by
  unfold miS at *
  rw [axu_row (show o + 31 ≠ o by omega), axu_row (show o + 32 ≠ o by omega), axu_row (show o + 33 ≠ o by omega), axu_row (show o + 34 ≠ o by omega), axu_row (show o + 35 ≠ o by omega), axu_row (show o + 36 ≠ o by omega), axu_row (show o + 4 ≠ o by omega), axu_j (show (3 : Int) ≠ 0 by decide)]
  exact h
theorem slL_u0 {I : Nat → Int → Int} {o : Nat} {s j v : Int} : slL (ax_u I o j v) o s = slL I o s := by
  unfold slL
  rw [axu_row (show o + 33 ≠ o by omega), axu_row (show o + 32 ≠ o by omega)]

set_option maxHeartbeats 4000000 in
set_option maxRecDepth 100000 in
theorem m_commit {G : ax_G} {T : Nat → Nat} {N : Nat → Int} {I : Nat → Int → Int} {R : Nat → Int → Option Nat} {z o : Nat} (M : axMo T N R o) {b k s : Int} (hm : 1 ≤ (I o 2) ∧ (I o 2) ≤ 24) (hS : miS I o) (hst : 0 ≤ (I o 40) ∧ (I o 40) ≤ 2) (hb : ax_r b) (hk : ax_r k) (hs : ax_r s) : axE G YX12_commit 3 [vR o, vI b, vI k, vI s] T N I R z (some (vI (cm I o b k s).1)) (cm I o b k s).2 := by

  refine ax_enter (by decide) (Nat.le_of_ble_eq_true rfl) (ax_cat rfl) (fun f hC => ?_)
  show axX G f 0 0 _ 0 [vR o, vI b, vI k, vI s, vU, vU] [] T N I R z 0 0
  have loop : (cm I o b k s) = ((I o 2), ax_u (ax_f (ax_u (mdI (ax_u I o 0 0) o k (I (o + 7) b) (-9)) (o + 6) ((I o 2)) (I (o + 32) s)) (o + 5) (16 * (I o 2)) (I (o + 32) s) (fun j => I (o + 33) (24 * s + (j - 16 * (I o 2))))) (o + 7) b ((I o 2))) → (0 ≤ b ∧ b < 4) → (0 ≤ s ∧ s < 5) → I (o + 32) s ≤ 16 → (I o 2) < 24 → ∀ (n : Nat) (x : Int), (I (o + 32) s - x).toNat ≤ n → 0 ≤ x → x ≤ I (o + 32) s → axX G f 0 0 (fun r1 T1 N1 I1 R1 z1 => r1 = some (vI (cm I o b k s).1) ∧ T1 = T ∧ N1 = N ∧ I1 = (cm I o b k s).2 ∧ R1 = R ∧ z1 = z) 131 [vR o, vI b, vI k, vI s, vI ((I o 2)), vI x] [] T N (ax_f (ax_u (mdI (ax_u I o 0 0) o k (I (o + 7) b) (-9)) (o + 6) ((I o 2)) (I (o + 32) s)) (o + 5) (16 * (I o 2)) x (fun j => I (o + 33) (24 * s + (j - 16 * (I o 2))))) R z 0 0 := by
    intro hcm hb1 hs1 h16 hm24 n
    have hz := hS.2.1 s
    have e6 : ∀ x, (ax_f (ax_u (mdI (ax_u I o 0 0) o k (I (o + 7) b) (-9)) (o + 6) ((I o 2)) (I (o + 32) s)) (o + 5) (16 * (I o 2)) x (fun j => I (o + 33) (24 * s + (j - 16 * (I o 2))))) (o + 6) ((I o 2)) = I (o + 32) s := fun x => by rw [axf_a (by omega), axu_s]
    have e33 : ∀ x j, (ax_f (ax_u (mdI (ax_u I o 0 0) o k (I (o + 7) b) (-9)) (o + 6) ((I o 2)) (I (o + 32) s)) (o + 5) (16 * (I o 2)) x (fun j => I (o + 33) (24 * s + (j - 16 * (I o 2))))) (o + 33) j = I (o + 33) j := fun x j => by rw [axf_a (by omega), axu_a (by omega), md_row (by omega) (by omega), axu_a (by omega)]
    induction n with
    | zero =>
      intro x hn h0 h1
      have hx : x = I (o + 32) s := by omega
      refine x_iload (pc := 131) hC dX12_commit_131 rfl ?_
      refine x_aload_n (pc := 133) hC dX12_commit_133 rfl ?_
      refine x_getO (pc := 134) hC gf_X12_25 dX12_commit_134 M.1 (mo_size M).1 ?_
      refine x_iload (pc := 137) hC dX12_commit_137 rfl ?_
      refine x_iald (pc := 139) hC dX12_commit_139 (mo_size M).2.1 (by omega) (by rw [(mo_size M).2.2]; omega) ?_
      rw [e6]
      refine x_icmp_ge (pc := 140) hC 174 dX12_commit_140 (by decide) (by omega) (by omega) (fun b140 => ?_) (fun b140 => ?_)
      · refine x_aload_n (pc := 174) hC dX12_commit_174 rfl ?_
        refine x_getO (pc := 175) hC gf_X12_28 dX12_commit_175 M.1 (mo_tips M).1 ?_
        refine x_iload_n (pc := 178) hC dX12_commit_178 rfl ?_
        refine x_iload (pc := 179) hC dX12_commit_179 rfl ?_
        refine x_iast (pc := 181) hC dX12_commit_181 (mo_tips M).2.1 (by omega) (by rw [(mo_tips M).2.2]; omega) ?_
        refine x_iload (pc := 182) hC dX12_commit_182 rfl ?_
        refine x_iret (pc := 184) hC rfl dX12_commit_184 ?_
        have hx : x = I (o + 32) s := by omega
        refine ⟨?_, rfl, rfl, ?_, rfl, rfl⟩
        · rw [hcm]
        · rw [hcm, hx]
      · omega
    | succ n ih =>
      intro x hn h0 h1
      refine x_iload (pc := 131) hC dX12_commit_131 rfl ?_
      refine x_aload_n (pc := 133) hC dX12_commit_133 rfl ?_
      refine x_getO (pc := 134) hC gf_X12_25 dX12_commit_134 M.1 (mo_size M).1 ?_
      refine x_iload (pc := 137) hC dX12_commit_137 rfl ?_
      refine x_iald (pc := 139) hC dX12_commit_139 (mo_size M).2.1 (by omega) (by rw [(mo_size M).2.2]; omega) ?_
      rw [e6]
      refine x_icmp_ge (pc := 140) hC 174 dX12_commit_140 (by decide) (by omega) (by omega) (fun b140 => ?_) (fun b140 => ?_)
      · refine x_aload_n (pc := 174) hC dX12_commit_174 rfl ?_
        refine x_getO (pc := 175) hC gf_X12_28 dX12_commit_175 M.1 (mo_tips M).1 ?_
        refine x_iload_n (pc := 178) hC dX12_commit_178 rfl ?_
        refine x_iload (pc := 179) hC dX12_commit_179 rfl ?_
        refine x_iast (pc := 181) hC dX12_commit_181 (mo_tips M).2.1 (by omega) (by rw [(mo_tips M).2.2]; omega) ?_
        refine x_iload (pc := 182) hC dX12_commit_182 rfl ?_
        refine x_iret (pc := 184) hC rfl dX12_commit_184 ?_
        have hx : x = I (o + 32) s := by omega
        refine ⟨?_, rfl, rfl, ?_, rfl, rfl⟩
        · rw [hcm]
        · rw [hcm, hx]
      · refine x_aload_n (pc := 143) hC dX12_commit_143 rfl ?_
        refine x_getO (pc := 144) hC gf_X12_22 dX12_commit_144 M.1 (mo_line M).1 ?_
        refine x_bipush (pc := 147) hC dX12_commit_147 (by decide) ?_
        refine x_iload (pc := 149) hC dX12_commit_149 rfl ?_
        refine x_imul (pc := 151) hC dX12_commit_151 ?_
        refine x_iload (pc := 152) hC dX12_commit_152 rfl ?_
        refine x_iadd (pc := 154) hC dX12_commit_154 ?_
        refine x_aload_n (pc := 155) hC dX12_commit_155 rfl ?_
        refine x_getO (pc := 156) hC gf_X12_106 dX12_commit_156 M.1 (mo_cells M).1 ?_
        refine x_bipush (pc := 159) hC dX12_commit_159 (by decide) ?_
        refine x_iload_n (pc := 161) hC dX12_commit_161 rfl ?_
        refine x_imul (pc := 162) hC dX12_commit_162 ?_
        refine x_iload (pc := 163) hC dX12_commit_163 rfl ?_
        refine x_iadd (pc := 165) hC dX12_commit_165 ?_
        refine x_iald (pc := 166) hC dX12_commit_166 (mo_cells M).2.1 (by omega) (by rw [(mo_cells M).2.2]; omega) ?_
        refine x_iast (pc := 167) hC dX12_commit_167 (mo_line M).2.1 (by omega) (by rw [(mo_line M).2.2]; omega) ?_
        refine x_iinc (pc := 168) hC dX12_commit_168 rfl ?_
        dsimp only [List.set]
        refine x_goto (pc := 171) hC 131 dX12_commit_171 (by decide) ?_
        rw [e33, axf_step h0 rfl (by congr 1; omega)]
        exact ih (x + 1) (by omega) (by omega) (by omega)
  have a31 : ∀ j, (ax_u I o 0 0) (o + 31) j = I (o + 31) j := fun j => axu_a (by omega)
  have hsl := slL_u0 (I := I) (o := o) (s := s) (j := 0) (v := 0)
  have hS0 := miS_u0 (v := 0) hS
  have hso := hS.1 s
  have hz := hS.2.1 s
  have a40 : (ax_u I o 0 0) o 40 = I o 40 := axu_j (by decide)
  have a2 : (ax_u I o 0 0) o 2 = I o 2 := axu_j (by decide)
  have a7 : (ax_u I o 0 0) (o + 7) b = I (o + 7) b := axu_a (by omega)
  refine x_aload_n (pc := 0) hC dX12_commit_0 rfl ?_
  refine x_iconst (pc := 1) hC dX12_commit_1 ?_
  refine x_putI (pc := 2) hC pf_X12_122 dX12_commit_2 M.1 (by decide) ?_
  refine x_iload_n (pc := 5) hC dX12_commit_5 rfl ?_
  refine x_mS (pc := 6) hC cs_X12_183 dX12_commit_6 (m_isBranch hb) rfl (by decide) rfl rfl (Nat.le_of_ble_eq_true rfl) ?_
  refine x_ifB_eq (pc := 9) hC 19 dX12_commit_9 (by decide) (fun b9 => ?_) (fun b9 => ?_)
  · refine x_iconst (pc := 19) hC dX12_commit_19 ?_
    refine x_iret (pc := 20) hC rfl dX12_commit_20 ?_
    refine ⟨?_, rfl, rfl, ?_, rfl, rfl⟩
    · unfold cm; rw [if_neg (by omega)]; try rfl
    · unfold cm; rw [if_neg (by omega)]
  · refine x_iload_n (pc := 12) hC dX12_commit_12 rfl ?_
    refine x_mS (pc := 13) hC cs_X12_186 dX12_commit_13 (m_isSlot hs) rfl (by decide) rfl rfl (Nat.le_of_ble_eq_true rfl) ?_
    refine x_ifB_ne (pc := 16) hC 21 dX12_commit_16 (by decide) (fun b16 => ?_) (fun b16 => ?_)
    · refine x_iload_n (pc := 21) hC dX12_commit_21 rfl ?_
      refine x_iconst (pc := 22) hC dX12_commit_22 ?_
      refine x_iconst (pc := 23) hC dX12_commit_23 ?_
      refine x_mS (pc := 24) hC cs_X12_139 dX12_commit_24 (m_within hk (by decide) (by decide)) rfl (by decide) rfl rfl (Nat.le_of_ble_eq_true rfl) ?_
      refine x_ifB_ne (pc := 27) hC 33 dX12_commit_27 (by decide) (fun b27 => ?_) (fun b27 => ?_)
      · refine x_aload_n (pc := 33) hC dX12_commit_33 rfl ?_
        refine x_getI (pc := 34) hC gf_X12_189 dX12_commit_34 M.1 ?_
        rw [a40]
        refine x_if_eq (pc := 37) hC 43 dX12_commit_37 (by decide) (by omega) (fun b37 => ?_) (fun b37 => ?_)
        · refine x_aload_n (pc := 43) hC dX12_commit_43 rfl ?_
          refine x_getO (pc := 44) hC gf_X12_100 dX12_commit_44 M.1 (mo_slotSort M).1 ?_
          refine x_iload_n (pc := 47) hC dX12_commit_47 rfl ?_
          refine x_iald (pc := 48) hC dX12_commit_48 (mo_slotSort M).2.1 (by omega) (by rw [(mo_slotSort M).2.2]; omega) ?_
          rw [a31]
          refine x_if_le (pc := 49) hC 58 dX12_commit_49 (by decide) (by omega) (fun b49 => ?_) (fun b49 => ?_)
          · refine x_aload_n (pc := 58) hC dX12_commit_58 rfl ?_
            refine x_getO (pc := 59) hC gf_X12_100 dX12_commit_59 M.1 (mo_slotSort M).1 ?_
            refine x_iload_n (pc := 62) hC dX12_commit_62 rfl ?_
            refine x_iald (pc := 63) hC dX12_commit_63 (mo_slotSort M).2.1 (by omega) (by rw [(mo_slotSort M).2.2]; omega) ?_
            rw [a31]
            refine x_bipush (pc := 64) hC dX12_commit_64 (by decide) ?_
            refine x_icmp_ne (pc := 66) hC 75 dX12_commit_66 (by decide) (by omega) (by omega) (fun b66 => ?_) (fun b66 => ?_)
            · refine x_aload_n (pc := 75) hC dX12_commit_75 rfl ?_
              refine x_iload_n (pc := 76) hC dX12_commit_76 rfl ?_
              refine x_bipush (pc := 77) hC dX12_commit_77 (by decide) ?_
              refine x_mV (pc := 79) hC cv_X12_195 dX12_commit_79 (m_areLines M hS0 (by omega) (by decide)) M.1 rfl (by decide) rfl rfl (Nat.le_of_ble_eq_true rfl) ?_
              rw [hsl]
              refine x_ifB_ne (pc := 82) hC 88 dX12_commit_82 (by decide) (fun b82 => ?_) (fun b82 => ?_)
              · refine x_aload_n (pc := 88) hC dX12_commit_88 rfl ?_
                refine x_getI (pc := 89) hC gf_X12_129 dX12_commit_89 M.1 ?_
                refine x_bipush (pc := 92) hC dX12_commit_92 (by decide) ?_
                rw [a2]
                refine x_icmp_ne (pc := 94) hC 100 dX12_commit_94 (by decide) (by omega) (by omega) (fun b94 => ?_) (fun b94 => ?_)
                · refine x_aload_n (pc := 100) hC dX12_commit_100 rfl ?_
                  refine x_iload_n (pc := 101) hC dX12_commit_101 rfl ?_
                  refine x_aload_n (pc := 102) hC dX12_commit_102 rfl ?_
                  refine x_getO (pc := 103) hC gf_X12_28 dX12_commit_103 M.1 (mo_tips M).1 ?_
                  refine x_iload_n (pc := 106) hC dX12_commit_106 rfl ?_
                  refine x_iald (pc := 107) hC dX12_commit_107 (mo_tips M).2.1 (by omega) (by rw [(mo_tips M).2.2]; omega) ?_
                  refine x_bipush (pc := 108) hC dX12_commit_108 (by decide) ?_
                  rw [a7]
                  refine x_mV (pc := 110) hC cv_X12_118 dX12_commit_110 (m_made M (by rw [a2]; omega) (by omega) (by decide)) M.1 rfl (by decide) rfl rfl (Nat.le_of_ble_eq_true rfl) ?_
                  refine x_istore (pc := 113) hC dX12_commit_113 (Nat.le_of_ble_eq_true rfl) ?_
                  dsimp only [List.set]
                  refine x_aload_n (pc := 115) hC dX12_commit_115 rfl ?_
                  refine x_getO (pc := 116) hC gf_X12_25 dX12_commit_116 M.1 (mo_size M).1 ?_
                  refine x_iload (pc := 119) hC dX12_commit_119 rfl ?_
                  refine x_aload_n (pc := 121) hC dX12_commit_121 rfl ?_
                  refine x_getO (pc := 122) hC gf_X12_103 dX12_commit_122 M.1 (mo_slotSize M).1 ?_
                  refine x_iload_n (pc := 125) hC dX12_commit_125 rfl ?_
                  refine x_iald (pc := 126) hC dX12_commit_126 (mo_slotSize M).2.1 (by omega) (by rw [(mo_slotSize M).2.2]; omega) ?_
                  refine x_iast (pc := 127) hC dX12_commit_127 (mo_size M).2.1 (by omega) (by rw [(mo_size M).2.2]; omega) ?_
                  rw [show mdI (ax_u I o 0 0) o k (I (o + 7) b) (-9) (o + 32) s = I (o + 32) s by rw [md_row (by omega) (by omega), axu_a (by omega)], a2]
                  refine x_iconst (pc := 128) hC dX12_commit_128 ?_
                  refine x_istore (pc := 129) hC dX12_commit_129 (Nat.le_of_ble_eq_true rfl) ?_
                  dsimp only [List.set]
                  have hal := b82.1
                  have hlen : ((slL I o s).length : Int) = I (o + 32) s := by unfold slL; rw [seg_len]; omega
                  have := loop (by unfold cm; rw [if_pos ⟨b9, b16⟩, if_pos b27, if_pos b37, if_pos b49, if_neg b66, if_pos b82, if_neg b94]) b9 b16 (by omega) (by omega) _ 0 (Nat.le_refl _) (by omega) (by omega)
                  rw [axf_0] at this
                  exact this
                · refine x_bipush (pc := 97) hC dX12_commit_97 (by decide) ?_
                  refine x_iret (pc := 99) hC rfl dX12_commit_99 ?_
                  refine ⟨?_, rfl, rfl, ?_, rfl, rfl⟩
                  · unfold cm; rw [if_pos ⟨b9, b16⟩, if_pos b27, if_pos b37, if_pos b49, if_neg b66, if_pos b82, if_pos b94]; try rfl
                  · unfold cm; rw [if_pos ⟨b9, b16⟩, if_pos b27, if_pos b37, if_pos b49, if_neg b66, if_pos b82, if_pos b94]
              · refine x_bipush (pc := 85) hC dX12_commit_85 (by decide) ?_
                refine x_iret (pc := 87) hC rfl dX12_commit_87 ?_
                refine ⟨?_, rfl, rfl, ?_, rfl, rfl⟩
                · unfold cm; rw [if_pos ⟨b9, b16⟩, if_pos b27, if_pos b37, if_pos b49, if_neg b66, if_neg b82]; try rfl
                · unfold cm; rw [if_pos ⟨b9, b16⟩, if_pos b27, if_pos b37, if_pos b49, if_neg b66, if_neg b82]
            · refine x_aload_n (pc := 69) hC dX12_commit_69 rfl ?_
              refine x_iconst (pc := 70) hC dX12_commit_70 ?_
              refine x_mV (pc := 71) hC cv_X12_192 dX12_commit_71 (m_fails M) M.1 rfl (by decide) rfl rfl (Nat.le_of_ble_eq_true rfl) ?_
              refine x_iret (pc := 74) hC rfl dX12_commit_74 ?_
              refine ⟨?_, rfl, rfl, ?_, rfl, rfl⟩
              · unfold cm; rw [if_pos ⟨b9, b16⟩, if_pos b27, if_pos b37, if_pos b49, if_pos b66]; try rfl
              · unfold cm; rw [if_pos ⟨b9, b16⟩, if_pos b27, if_pos b37, if_pos b49, if_pos b66]
          · refine x_aload_n (pc := 52) hC dX12_commit_52 rfl ?_
            refine x_iconst (pc := 53) hC dX12_commit_53 ?_
            refine x_mV (pc := 54) hC cv_X12_192 dX12_commit_54 (m_fails M) M.1 rfl (by decide) rfl rfl (Nat.le_of_ble_eq_true rfl) ?_
            refine x_iret (pc := 57) hC rfl dX12_commit_57 ?_
            refine ⟨?_, rfl, rfl, ?_, rfl, rfl⟩
            · unfold cm; rw [if_pos ⟨b9, b16⟩, if_pos b27, if_pos b37, if_neg (by omega)]; try rfl
            · unfold cm; rw [if_pos ⟨b9, b16⟩, if_pos b27, if_pos b37, if_neg (by omega)]
        · refine x_bipush (pc := 40) hC dX12_commit_40 (by decide) ?_
          refine x_iret (pc := 42) hC rfl dX12_commit_42 ?_
          refine ⟨?_, rfl, rfl, ?_, rfl, rfl⟩
          · unfold cm; rw [if_pos ⟨b9, b16⟩, if_pos b27, if_neg b37]; try rfl
          · unfold cm; rw [if_pos ⟨b9, b16⟩, if_pos b27, if_neg b37]
      · refine x_bipush (pc := 30) hC dX12_commit_30 (by decide) ?_
        refine x_iret (pc := 32) hC rfl dX12_commit_32 ?_
        refine ⟨?_, rfl, rfl, ?_, rfl, rfl⟩
        · unfold cm; rw [if_pos ⟨b9, b16⟩, if_neg b27]; try rfl
        · unfold cm; rw [if_pos ⟨b9, b16⟩, if_neg b27]
    · refine x_iconst (pc := 19) hC dX12_commit_19 ?_
      refine x_iret (pc := 20) hC rfl dX12_commit_20 ?_
      refine ⟨?_, rfl, rfl, ?_, rfl, rfl⟩
      · unfold cm; rw [if_neg (by omega)]; try rfl
      · unfold cm; rw [if_neg (by omega)]

set_option maxHeartbeats 4000000 in
set_option maxRecDepth 100000 in
theorem m_resolution {G : ax_G} {T : Nat → Nat} {N : Nat → Int} {I : Nat → Int → Int} {R : Nat → Int → Option Nat} {z o : Nat} (M : axMo T N R o) {k w : Int} (hR : miR I o) (hk : ax_r k) (hw : ax_r w) : axE G YX12_resolution 1 [vR o, vI k, vI w] T N I R z (some (vI (reR I o k w))) I := by

  refine ax_enter (by decide) (Nat.le_of_ble_eq_true rfl) (ax_cat rfl) (fun f hC => ?_)
  show axX G f 0 0 _ 0 [vR o, vI k, vI w] [] T N I R z 0 0
  have hr := hR.1
  have h21 := hR.2.2.1 k
  have h23 := hR.2.2.2.2.1 k
  have aK : ∀ i, 0 ≤ i → atO (rsK I o k) i = if i < I (o + 21) k then I (o + 20) (51 * k + i) else -9 := fun i hi => by
    unfold rsK
    rw [atO_seg (by omega) hi]
    rw [show 51 * k + I (o + 21) k - 51 * k = I (o + 21) k by omega]
  have aW : ∀ i, 0 ≤ i → atO (rsW I o k) i = if i < I (o + 23) k then I (o + 22) (6 * k + i) else -9 := fun i hi => by
    unfold rsW
    rw [atO_seg (by omega) hi]
    rw [show 6 * k + I (o + 23) k - 6 * k = I (o + 23) k by omega]
  have lK : ((rsK I o k).length : Int) = I (o + 21) k := by unfold rsK; rw [seg_len]; omega
  have lW : ((rsW I o k).length : Int) = I (o + 23) k := by unfold rsW; rw [seg_len]; omega
  refine x_iload_n (pc := 0) hC dX12_resolution_0 rfl ?_
  refine x_iconst (pc := 1) hC dX12_resolution_1 ?_
  refine x_aload_n (pc := 2) hC dX12_resolution_2 rfl ?_
  refine x_getI (pc := 3) hC gf_X12_219 dX12_resolution_3 M.1 ?_
  refine x_iconst (pc := 6) hC dX12_resolution_6 ?_
  refine x_isub (pc := 7) hC dX12_resolution_7 ?_
  refine x_mS (pc := 8) hC cs_X12_139 dX12_resolution_8 (m_within hk (by decide) (by omega)) rfl (by decide) rfl rfl (Nat.le_of_ble_eq_true rfl) ?_
  refine x_ifB_ne (pc := 11) hC 16 dX12_resolution_11 (by decide) (fun b11 => ?_) (fun b11 => ?_)
  · refine x_iload_n (pc := 16) hC dX12_resolution_16 rfl ?_
    refine x_bipush (pc := 17) hC dX12_resolution_17 (by decide) ?_
    refine x_bipush (pc := 19) hC dX12_resolution_19 (by decide) ?_
    refine x_mS (pc := 21) hC cs_X12_139 dX12_resolution_21 (m_within hw (by decide) (by decide)) rfl (by decide) rfl rfl (Nat.le_of_ble_eq_true rfl) ?_
    refine x_ifB_eq (pc := 24) hC 60 dX12_resolution_24 (by decide) (fun b24 => ?_) (fun b24 => ?_)
    · refine x_iload_n (pc := 60) hC dX12_resolution_60 rfl ?_
      refine x_bipush (pc := 61) hC dX12_resolution_61 (by decide) ?_
      refine x_bipush (pc := 63) hC dX12_resolution_63 (by decide) ?_
      refine x_mS (pc := 65) hC cs_X12_139 dX12_resolution_65 (m_within hw (by decide) (by decide)) rfl (by decide) rfl rfl (Nat.le_of_ble_eq_true rfl) ?_
      refine x_ifB_eq (pc := 68) hC 104 dX12_resolution_68 (by decide) (fun b68 => ?_) (fun b68 => ?_)
      · refine x_iload_n (pc := 104) hC dX12_resolution_104 rfl ?_
        refine x_if_ne (pc := 105) hC 117 dX12_resolution_105 (by decide) (by omega) (fun b105 => ?_) (fun b105 => ?_)
        · refine x_iload_n (pc := 117) hC dX12_resolution_117 rfl ?_
          refine x_iconst (pc := 118) hC dX12_resolution_118 ?_
          refine x_icmp_ne (pc := 119) hC 131 dX12_resolution_119 (by decide) (by omega) (by omega) (fun b119 => ?_) (fun b119 => ?_)
          · refine x_bipush (pc := 131) hC dX12_resolution_131 (by decide) ?_
            refine x_iret (pc := 133) hC rfl dX12_resolution_133 ?_
            refine ⟨?_, rfl, rfl, rfl, rfl, rfl⟩
            unfold reR
            rw [if_pos (by omega)]
            first
            | (rw [if_pos (by omega), aK _ (by omega)]; first | (rw [if_pos (by omega), show 51 * k + (w - 10) = 51 * k + w - 10 by omega]; done) | (rw [if_neg (by omega)]; done))
            | (rw [if_neg (by omega), if_pos (by omega), aW _ (by omega)]; first | (rw [if_pos (by omega), show 6 * k + (w - 70) = 6 * k + w - 70 by omega]; done) | (rw [if_neg (by omega)]; done))
            | (rw [if_neg (by omega), if_neg (by omega), if_pos (by omega), lK]; done)
            | (rw [if_neg (by omega), if_neg (by omega), if_neg (by omega), if_pos (by omega), lW]; done)
            | (rw [if_neg (by omega), if_neg (by omega), if_neg (by omega), if_neg (by omega)]; done)
          · refine x_aload_n (pc := 122) hC dX12_resolution_122 rfl ?_
            refine x_getO (pc := 123) hC gf_X12_76 dX12_resolution_123 M.1 (mo_rowSize M).1 ?_
            refine x_iload_n (pc := 126) hC dX12_resolution_126 rfl ?_
            refine x_iald (pc := 127) hC dX12_resolution_127 (mo_rowSize M).2.1 (by omega) (by rw [(mo_rowSize M).2.2]; omega) ?_
            refine x_goto (pc := 128) hC 133 dX12_resolution_128 (by decide) ?_
            refine x_iret (pc := 133) hC rfl dX12_resolution_133 ?_
            refine ⟨?_, rfl, rfl, rfl, rfl, rfl⟩
            unfold reR
            rw [if_pos (by omega)]
            first
            | (rw [if_pos (by omega), aK _ (by omega)]; first | (rw [if_pos (by omega), show 51 * k + (w - 10) = 51 * k + w - 10 by omega]; done) | (rw [if_neg (by omega)]; done))
            | (rw [if_neg (by omega), if_pos (by omega), aW _ (by omega)]; first | (rw [if_pos (by omega), show 6 * k + (w - 70) = 6 * k + w - 70 by omega]; done) | (rw [if_neg (by omega)]; done))
            | (rw [if_neg (by omega), if_neg (by omega), if_pos (by omega), lK]; done)
            | (rw [if_neg (by omega), if_neg (by omega), if_neg (by omega), if_pos (by omega), lW]; done)
            | (rw [if_neg (by omega), if_neg (by omega), if_neg (by omega), if_neg (by omega)]; done)
        · refine x_aload_n (pc := 108) hC dX12_resolution_108 rfl ?_
          refine x_getO (pc := 109) hC gf_X12_70 dX12_resolution_109 M.1 (mo_knownSize M).1 ?_
          refine x_iload_n (pc := 112) hC dX12_resolution_112 rfl ?_
          refine x_iald (pc := 113) hC dX12_resolution_113 (mo_knownSize M).2.1 (by omega) (by rw [(mo_knownSize M).2.2]; omega) ?_
          refine x_goto (pc := 114) hC 133 dX12_resolution_114 (by decide) ?_
          refine x_iret (pc := 133) hC rfl dX12_resolution_133 ?_
          refine ⟨?_, rfl, rfl, rfl, rfl, rfl⟩
          unfold reR
          rw [if_pos (by omega)]
          first
          | (rw [if_pos (by omega), aK _ (by omega)]; first | (rw [if_pos (by omega), show 51 * k + (w - 10) = 51 * k + w - 10 by omega]; done) | (rw [if_neg (by omega)]; done))
          | (rw [if_neg (by omega), if_pos (by omega), aW _ (by omega)]; first | (rw [if_pos (by omega), show 6 * k + (w - 70) = 6 * k + w - 70 by omega]; done) | (rw [if_neg (by omega)]; done))
          | (rw [if_neg (by omega), if_neg (by omega), if_pos (by omega), lK]; done)
          | (rw [if_neg (by omega), if_neg (by omega), if_neg (by omega), if_pos (by omega), lW]; done)
          | (rw [if_neg (by omega), if_neg (by omega), if_neg (by omega), if_neg (by omega)]; done)
      · refine x_iload_n (pc := 71) hC dX12_resolution_71 rfl ?_
        refine x_bipush (pc := 72) hC dX12_resolution_72 (by decide) ?_
        refine x_isub (pc := 74) hC dX12_resolution_74 ?_
        refine x_aload_n (pc := 75) hC dX12_resolution_75 rfl ?_
        refine x_getO (pc := 76) hC gf_X12_76 dX12_resolution_76 M.1 (mo_rowSize M).1 ?_
        refine x_iload_n (pc := 79) hC dX12_resolution_79 rfl ?_
        refine x_iald (pc := 80) hC dX12_resolution_80 (mo_rowSize M).2.1 (by omega) (by rw [(mo_rowSize M).2.2]; omega) ?_
        refine x_icmp_ge (pc := 81) hC 101 dX12_resolution_81 (by decide) (by omega) (by omega) (fun b81 => ?_) (fun b81 => ?_)
        · refine x_bipush (pc := 101) hC dX12_resolution_101 (by decide) ?_
          refine x_iret (pc := 103) hC rfl dX12_resolution_103 ?_
          refine ⟨?_, rfl, rfl, rfl, rfl, rfl⟩
          unfold reR
          rw [if_pos (by omega)]
          first
          | (rw [if_pos (by omega), aK _ (by omega)]; first | (rw [if_pos (by omega), show 51 * k + (w - 10) = 51 * k + w - 10 by omega]; done) | (rw [if_neg (by omega)]; done))
          | (rw [if_neg (by omega), if_pos (by omega), aW _ (by omega)]; first | (rw [if_pos (by omega), show 6 * k + (w - 70) = 6 * k + w - 70 by omega]; done) | (rw [if_neg (by omega)]; done))
          | (rw [if_neg (by omega), if_neg (by omega), if_pos (by omega), lK]; done)
          | (rw [if_neg (by omega), if_neg (by omega), if_neg (by omega), if_pos (by omega), lW]; done)
          | (rw [if_neg (by omega), if_neg (by omega), if_neg (by omega), if_neg (by omega)]; done)
        · refine x_aload_n (pc := 84) hC dX12_resolution_84 rfl ?_
          refine x_getO (pc := 85) hC gf_X12_73 dX12_resolution_85 M.1 (mo_rowOf M).1 ?_
          refine x_bipush (pc := 88) hC dX12_resolution_88 (by decide) ?_
          refine x_iload_n (pc := 90) hC dX12_resolution_90 rfl ?_
          refine x_imul (pc := 91) hC dX12_resolution_91 ?_
          refine x_iload_n (pc := 92) hC dX12_resolution_92 rfl ?_
          refine x_iadd (pc := 93) hC dX12_resolution_93 ?_
          refine x_bipush (pc := 94) hC dX12_resolution_94 (by decide) ?_
          refine x_isub (pc := 96) hC dX12_resolution_96 ?_
          refine x_iald (pc := 97) hC dX12_resolution_97 (mo_rowOf M).2.1 (by omega) (by rw [(mo_rowOf M).2.2]; omega) ?_
          refine x_goto (pc := 98) hC 103 dX12_resolution_98 (by decide) ?_
          refine x_iret (pc := 103) hC rfl dX12_resolution_103 ?_
          refine ⟨?_, rfl, rfl, rfl, rfl, rfl⟩
          unfold reR
          rw [if_pos (by omega)]
          first
          | (rw [if_pos (by omega), aK _ (by omega)]; first | (rw [if_pos (by omega), show 51 * k + (w - 10) = 51 * k + w - 10 by omega]; done) | (rw [if_neg (by omega)]; done))
          | (rw [if_neg (by omega), if_pos (by omega), aW _ (by omega)]; first | (rw [if_pos (by omega), show 6 * k + (w - 70) = 6 * k + w - 70 by omega]; done) | (rw [if_neg (by omega)]; done))
          | (rw [if_neg (by omega), if_neg (by omega), if_pos (by omega), lK]; done)
          | (rw [if_neg (by omega), if_neg (by omega), if_neg (by omega), if_pos (by omega), lW]; done)
          | (rw [if_neg (by omega), if_neg (by omega), if_neg (by omega), if_neg (by omega)]; done)
    · refine x_iload_n (pc := 27) hC dX12_resolution_27 rfl ?_
      refine x_bipush (pc := 28) hC dX12_resolution_28 (by decide) ?_
      refine x_isub (pc := 30) hC dX12_resolution_30 ?_
      refine x_aload_n (pc := 31) hC dX12_resolution_31 rfl ?_
      refine x_getO (pc := 32) hC gf_X12_70 dX12_resolution_32 M.1 (mo_knownSize M).1 ?_
      refine x_iload_n (pc := 35) hC dX12_resolution_35 rfl ?_
      refine x_iald (pc := 36) hC dX12_resolution_36 (mo_knownSize M).2.1 (by omega) (by rw [(mo_knownSize M).2.2]; omega) ?_
      refine x_icmp_ge (pc := 37) hC 57 dX12_resolution_37 (by decide) (by omega) (by omega) (fun b37 => ?_) (fun b37 => ?_)
      · refine x_bipush (pc := 57) hC dX12_resolution_57 (by decide) ?_
        refine x_iret (pc := 59) hC rfl dX12_resolution_59 ?_
        refine ⟨?_, rfl, rfl, rfl, rfl, rfl⟩
        unfold reR
        rw [if_pos (by omega)]
        first
        | (rw [if_pos (by omega), aK _ (by omega)]; first | (rw [if_pos (by omega), show 51 * k + (w - 10) = 51 * k + w - 10 by omega]; done) | (rw [if_neg (by omega)]; done))
        | (rw [if_neg (by omega), if_pos (by omega), aW _ (by omega)]; first | (rw [if_pos (by omega), show 6 * k + (w - 70) = 6 * k + w - 70 by omega]; done) | (rw [if_neg (by omega)]; done))
        | (rw [if_neg (by omega), if_neg (by omega), if_pos (by omega), lK]; done)
        | (rw [if_neg (by omega), if_neg (by omega), if_neg (by omega), if_pos (by omega), lW]; done)
        | (rw [if_neg (by omega), if_neg (by omega), if_neg (by omega), if_neg (by omega)]; done)
      · refine x_aload_n (pc := 40) hC dX12_resolution_40 rfl ?_
        refine x_getO (pc := 41) hC gf_X12_67 dX12_resolution_41 M.1 (mo_known M).1 ?_
        refine x_bipush (pc := 44) hC dX12_resolution_44 (by decide) ?_
        refine x_iload_n (pc := 46) hC dX12_resolution_46 rfl ?_
        refine x_imul (pc := 47) hC dX12_resolution_47 ?_
        refine x_iload_n (pc := 48) hC dX12_resolution_48 rfl ?_
        refine x_iadd (pc := 49) hC dX12_resolution_49 ?_
        refine x_bipush (pc := 50) hC dX12_resolution_50 (by decide) ?_
        refine x_isub (pc := 52) hC dX12_resolution_52 ?_
        refine x_iald (pc := 53) hC dX12_resolution_53 (mo_known M).2.1 (by omega) (by rw [(mo_known M).2.2]; omega) ?_
        refine x_goto (pc := 54) hC 59 dX12_resolution_54 (by decide) ?_
        refine x_iret (pc := 59) hC rfl dX12_resolution_59 ?_
        refine ⟨?_, rfl, rfl, rfl, rfl, rfl⟩
        unfold reR
        rw [if_pos (by omega)]
        first
        | (rw [if_pos (by omega), aK _ (by omega)]; first | (rw [if_pos (by omega), show 51 * k + (w - 10) = 51 * k + w - 10 by omega]; done) | (rw [if_neg (by omega)]; done))
        | (rw [if_neg (by omega), if_pos (by omega), aW _ (by omega)]; first | (rw [if_pos (by omega), show 6 * k + (w - 70) = 6 * k + w - 70 by omega]; done) | (rw [if_neg (by omega)]; done))
        | (rw [if_neg (by omega), if_neg (by omega), if_pos (by omega), lK]; done)
        | (rw [if_neg (by omega), if_neg (by omega), if_neg (by omega), if_pos (by omega), lW]; done)
        | (rw [if_neg (by omega), if_neg (by omega), if_neg (by omega), if_neg (by omega)]; done)
  · refine x_iconst (pc := 14) hC dX12_resolution_14 ?_
    refine x_iret (pc := 15) hC rfl dX12_resolution_15 ?_
    exact ⟨by unfold reR; rw [if_neg (by omega)], rfl, rfl, rfl, rfl, rfl⟩

