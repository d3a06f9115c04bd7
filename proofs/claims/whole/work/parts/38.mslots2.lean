/-! THE REFERENCE: numbers, copies, tellings -/
set_option maxHeartbeats 4000000 in
set_option maxRecDepth 100000 in
theorem m_number {G : ax_G} {T : Nat → Nat} {N : Nat → Int} {I : Nat → Int → Int} {R : Nat → Int → Option Nat} {z o : Nat} (M : axMo T N R o) {s i : Int} (hS : miS I o) (hs : ax_r s) (hi : ax_r i) : axE G YX12_number 2 [vR o, vI s, vI i] T N I R z (some (vL (nu I o s i).1)) (nu I o s i).2 := by

  refine ax_enter (by decide) (Nat.le_of_ble_eq_true rfl) (ax_cat rfl) (fun f hC => ?_)
  show axX G f 0 0 _ 0 [vR o, vI s, vI i] [] T N I R z 0 0
  have hS0 : miS (ax_u I o 0 0) o := miS_u0 hS
  have ea : anR (ax_u I o 0 0) o s i = anR I o s i := by unfold anR; rw [axu_a (by omega), axu_a (by omega)]
  have har := anR_r I o s i
  have h32 := hS.2.1 s
  refine x_aload_n (pc := 0) hC dX12_number_0 rfl ?_
  refine x_iconst (pc := 1) hC dX12_number_1 ?_
  refine x_putI (pc := 2) hC pf_X12_122 dX12_number_2 M.1 (by decide) ?_
  refine x_iload_n (pc := 5) hC dX12_number_5 rfl ?_
  refine x_mS (pc := 6) hC cs_X12_186 dX12_number_6 (m_isSlot hs) rfl (by decide) rfl rfl (Nat.le_of_ble_eq_true rfl) ?_
  refine x_ifB_ne (pc := 9) hC 16 dX12_number_9 (by decide) (fun b9 => ?_) (fun b9 => ?_)
  · refine x_aload_n (pc := 16) hC dX12_number_16 rfl ?_
    refine x_aload_n (pc := 17) hC dX12_number_17 rfl ?_
    refine x_iload_n (pc := 18) hC dX12_number_18 rfl ?_
    refine x_iload_n (pc := 19) hC dX12_number_19 rfl ?_
    refine x_mV (pc := 20) hC cv_X12_331 dX12_number_20 (m_againstNumber M hS0 b9 hi) M.1 rfl (by decide) rfl rfl (Nat.le_of_ble_eq_true rfl) ?_
    rw [ea]
    refine x_putI (pc := 23) hC pf_X12_122 dX12_number_23 M.1 (by decide) ?_
    refine x_aload_n (pc := 26) hC dX12_number_26 rfl ?_
    refine x_getI (pc := 27) hC gf_X12_122 dX12_number_27 M.1 ?_
    rw [axu_s]
    refine x_if_eq (pc := 30) hC 39 dX12_number_30 (by decide) (by omega) (fun b30 => ?_) (fun b30 => ?_)
    · have ha0 := anR_0 b30
      refine x_aload_n (pc := 39) hC dX12_number_39 rfl ?_
      refine x_getO (pc := 40) hC gf_X12_106 dX12_number_40 M.1 (mo_cells M).1 ?_
      refine x_bipush (pc := 43) hC dX12_number_43 (by decide) ?_
      refine x_iload_n (pc := 45) hC dX12_number_45 rfl ?_
      refine x_imul (pc := 46) hC dX12_number_46 ?_
      refine x_iload_n (pc := 47) hC dX12_number_47 rfl ?_
      refine x_iadd (pc := 48) hC dX12_number_48 ?_
      refine x_iald (pc := 49) hC dX12_number_49 (mo_cells M).2.1 (by omega) (by rw [(mo_cells M).2.2]; omega) ?_
      rw [axu_a (by omega), axu_a (by omega)]
      refine x_i2l (pc := 50) hC dX12_number_50 (hS.2.2.1 _) ?_
      refine x_lret (pc := 51) hC rfl dX12_number_51 ?_
      first
      | (refine ⟨?_, rfl, rfl, ?_, rfl, rfl⟩
         · unfold nu; rw [if_pos b9, if_pos b30]
         · unfold nu; rw [if_pos b9, if_pos b30, b30])
      | (refine ⟨?_, rfl, rfl, ?_, rfl, rfl⟩
         · unfold nu; rw [if_pos b9, if_neg b30]
         · unfold nu; rw [if_pos b9, if_neg b30])
    · refine x_ldc2 (pc := 33) hC lc_X12_334 dX12_number_33 ?_
      refine x_goto (pc := 36) hC 51 dX12_number_36 (by decide) ?_
      refine x_lret (pc := 51) hC rfl dX12_number_51 ?_
      first
      | (refine ⟨?_, rfl, rfl, ?_, rfl, rfl⟩
         · unfold nu; rw [if_pos b9, if_pos b30]
         · unfold nu; rw [if_pos b9, if_pos b30, b30])
      | (refine ⟨?_, rfl, rfl, ?_, rfl, rfl⟩
         · unfold nu; rw [if_pos b9, if_neg b30]
         · unfold nu; rw [if_pos b9, if_neg b30])
  · refine x_ldc2 (pc := 12) hC lc_X12_334 dX12_number_12 ?_
    refine x_lret (pc := 15) hC rfl dX12_number_15 ?_
    refine ⟨?_, rfl, rfl, ?_, rfl, rfl⟩
    · unfold nu; rw [if_neg b9]; try rfl
    · unfold nu; rw [if_neg b9]; try rfl

set_option maxHeartbeats 4000000 in
set_option maxRecDepth 100000 in
theorem m_copy {G : ax_G} {T : Nat → Nat} {N : Nat → Int} {I : Nat → Int → Int} {R : Nat → Int → Option Nat} {z o : Nat} (M : axMo T N R o) {s i d j n : Int} (hS : miS I o) (hs : ax_r s) (hi : ax_r i) (hd : ax_r d) (hj : ax_r j) (hn : ax_r n) : axE G YX12_copy 2 [vR o, vI s, vI i, vI d, vI j, vI n] T N I R z (some (vI (cp I o s i d j n).1)) (cp I o s i d j n).2 := by

  refine ax_enter (by decide) (Nat.le_of_ble_eq_true rfl) (ax_cat rfl) (fun f hC => ?_)
  show axX G f 0 0 _ 0 [vR o, vI s, vI i, vI d, vI j, vI n, vU, vU] [] T N I R z 0 0
  have s31 := hS.1 s
  have d31 := hS.1 d
  have s32 := hS.2.1 s
  have d32 := hS.2.1 d
  have up : (0 ≤ s ∧ s < 5) → (0 ≤ d ∧ d < 5) → (0 ≤ i ∧ 0 ≤ j ∧ 0 ≤ n ∧ i ≤ I (o + 32) s ∧ j ≤ I (o + 32) d ∧ n ≤ I (o + 32) s - i ∧ n ≤ I (o + 32) d - j) → j ≤ i → (cp I o s i d j n) = (n, ax_u (ax_f I (o + 33) (24 * d + j) n (fun q => I (o + 33) (24 * s + i + (q - (24 * d + j))))) o 0 0) → ∀ (m : Nat) (y : Int) (c7 : ax_V), (n - y).toNat ≤ m → 0 ≤ y → y ≤ n → axX G f 0 0 (fun r1 T1 N1 I1 R1 z1 => r1 = some (vI (cp I o s i d j n).1) ∧ T1 = T ∧ N1 = N ∧ I1 = (cp I o s i d j n).2 ∧ R1 = R ∧ z1 = z) 150 [vR o, vI s, vI i, vI d, vI j, vI n, vI y, c7] [] T N (ax_f I (o + 33) (24 * d + j) y (fun q => I (o + 33) (24 * s + i + (q - (24 * d + j))))) R z 0 0 := by
    intro hs1 hd1 hcn hij hcp m
    induction m with
    | zero =>
      intro y c7 hm h0 h1
      refine x_iload (pc := 150) hC dX12_copy_150 rfl ?_
      refine x_iload (pc := 152) hC dX12_copy_152 rfl ?_
      refine x_icmp_ge (pc := 154) hC 212 dX12_copy_154 (by decide) (by omega) (by omega) (fun b154 => ?_) (fun b154 => ?_)
      · refine x_aload_n (pc := 212) hC dX12_copy_212 rfl ?_
        refine x_iload (pc := 213) hC dX12_copy_213 rfl ?_
        refine x_mV (pc := 215) hC cv_X12_325 dX12_copy_215 (m_refused M) M.1 rfl (by decide) rfl rfl (Nat.le_of_ble_eq_true rfl) ?_
        refine x_iret (pc := 218) hC rfl dX12_copy_218 ?_
        have hy : y = n := by omega
        subst hy
        exact ⟨by rw [hcp], rfl, rfl, by rw [hcp], rfl, rfl⟩
      · omega
    | succ m ih =>
      intro y c7 hm h0 h1
      refine x_iload (pc := 150) hC dX12_copy_150 rfl ?_
      refine x_iload (pc := 152) hC dX12_copy_152 rfl ?_
      refine x_icmp_ge (pc := 154) hC 212 dX12_copy_154 (by decide) (by omega) (by omega) (fun b154 => ?_) (fun b154 => ?_)
      · refine x_aload_n (pc := 212) hC dX12_copy_212 rfl ?_
        refine x_iload (pc := 213) hC dX12_copy_213 rfl ?_
        refine x_mV (pc := 215) hC cv_X12_325 dX12_copy_215 (m_refused M) M.1 rfl (by decide) rfl rfl (Nat.le_of_ble_eq_true rfl) ?_
        refine x_iret (pc := 218) hC rfl dX12_copy_218 ?_
        have hy : y = n := by omega
        subst hy
        exact ⟨by rw [hcp], rfl, rfl, by rw [hcp], rfl, rfl⟩
      · refine x_iload_n (pc := 157) hC dX12_copy_157 rfl ?_
        refine x_iload (pc := 158) hC dX12_copy_158 rfl ?_
        refine x_icmp_ge (pc := 160) hC 173 dX12_copy_160 (by decide) (by omega) (by omega) (fun _ => ?_) (fun h => by omega)
        refine x_iload (pc := 173) hC dX12_copy_173 rfl ?_
        refine x_istore (pc := 175) hC dX12_copy_175 (Nat.le_of_ble_eq_true rfl) ?_
        dsimp only [List.set]
        refine x_aload_n (pc := 177) hC dX12_copy_177 rfl ?_
        refine x_getO (pc := 178) hC gf_X12_106 dX12_copy_178 M.1 (mo_cells M).1 ?_
        refine x_bipush (pc := 181) hC dX12_copy_181 (by decide) ?_
        refine x_iload_n (pc := 183) hC dX12_copy_183 rfl ?_
        refine x_imul (pc := 184) hC dX12_copy_184 ?_
        refine x_iload (pc := 185) hC dX12_copy_185 rfl ?_
        refine x_iadd (pc := 187) hC dX12_copy_187 ?_
        refine x_iload (pc := 188) hC dX12_copy_188 rfl ?_
        refine x_iadd (pc := 190) hC dX12_copy_190 ?_
        refine x_aload_n (pc := 191) hC dX12_copy_191 rfl ?_
        refine x_getO (pc := 192) hC gf_X12_106 dX12_copy_192 M.1 (mo_cells M).1 ?_
        refine x_bipush (pc := 195) hC dX12_copy_195 (by decide) ?_
        refine x_iload_n (pc := 197) hC dX12_copy_197 rfl ?_
        refine x_imul (pc := 198) hC dX12_copy_198 ?_
        refine x_iload_n (pc := 199) hC dX12_copy_199 rfl ?_
        refine x_iadd (pc := 200) hC dX12_copy_200 ?_
        refine x_iload (pc := 201) hC dX12_copy_201 rfl ?_
        refine x_iadd (pc := 203) hC dX12_copy_203 ?_
        refine x_iald (pc := 204) hC dX12_copy_204 (mo_cells M).2.1 (by omega) (by rw [(mo_cells M).2.2]; omega) ?_
        refine x_iast (pc := 205) hC dX12_copy_205 (mo_cells M).2.1 (by omega) (by rw [(mo_cells M).2.2]; omega) ?_
        refine x_iinc (pc := 206) hC dX12_copy_206 rfl ?_
        dsimp only [List.set]
        refine x_goto (pc := 209) hC 150 dX12_copy_209 (by decide) ?_
        rw [axf_out (by omega), axf_step h0 rfl (by congr 1; omega)]
        exact ih (y + 1) _ (by omega) (by omega) (by omega)
  have dn : (0 ≤ s ∧ s < 5) → (0 ≤ d ∧ d < 5) → (0 ≤ i ∧ 0 ≤ j ∧ 0 ≤ n ∧ i ≤ I (o + 32) s ∧ j ≤ I (o + 32) d ∧ n ≤ I (o + 32) s - i ∧ n ≤ I (o + 32) d - j) → i < j → (cp I o s i d j n) = (n, ax_u (ax_f I (o + 33) (24 * d + j) n (fun q => I (o + 33) (24 * s + i + (q - (24 * d + j))))) o 0 0) → ∀ (m : Nat) (y : Int) (c7 : ax_V), (n - y).toNat ≤ m → 0 ≤ y → y ≤ n → axX G f 0 0 (fun r1 T1 N1 I1 R1 z1 => r1 = some (vI (cp I o s i d j n).1) ∧ T1 = T ∧ N1 = N ∧ I1 = (cp I o s i d j n).2 ∧ R1 = R ∧ z1 = z) 150 [vR o, vI s, vI i, vI d, vI j, vI n, vI y, c7] [] T N (ax_f I (o + 33) (24 * d + j + n - y) y (fun q => I (o + 33) (24 * s + i + (q - (24 * d + j))))) R z 0 0 := by
    intro hs1 hd1 hcn hij hcp m
    induction m with
    | zero =>
      intro y c7 hm h0 h1
      refine x_iload (pc := 150) hC dX12_copy_150 rfl ?_
      refine x_iload (pc := 152) hC dX12_copy_152 rfl ?_
      refine x_icmp_ge (pc := 154) hC 212 dX12_copy_154 (by decide) (by omega) (by omega) (fun b154 => ?_) (fun b154 => ?_)
      · refine x_aload_n (pc := 212) hC dX12_copy_212 rfl ?_
        refine x_iload (pc := 213) hC dX12_copy_213 rfl ?_
        refine x_mV (pc := 215) hC cv_X12_325 dX12_copy_215 (m_refused M) M.1 rfl (by decide) rfl rfl (Nat.le_of_ble_eq_true rfl) ?_
        refine x_iret (pc := 218) hC rfl dX12_copy_218 ?_
        have hy : y = n := by omega
        subst hy
        exact ⟨by rw [hcp], rfl, rfl, by rw [hcp, show 24 * d + j + y - y = 24 * d + j by omega], rfl, rfl⟩
      · omega
    | succ m ih =>
      intro y c7 hm h0 h1
      refine x_iload (pc := 150) hC dX12_copy_150 rfl ?_
      refine x_iload (pc := 152) hC dX12_copy_152 rfl ?_
      refine x_icmp_ge (pc := 154) hC 212 dX12_copy_154 (by decide) (by omega) (by omega) (fun b154 => ?_) (fun b154 => ?_)
      · refine x_aload_n (pc := 212) hC dX12_copy_212 rfl ?_
        refine x_iload (pc := 213) hC dX12_copy_213 rfl ?_
        refine x_mV (pc := 215) hC cv_X12_325 dX12_copy_215 (m_refused M) M.1 rfl (by decide) rfl rfl (Nat.le_of_ble_eq_true rfl) ?_
        refine x_iret (pc := 218) hC rfl dX12_copy_218 ?_
        have hy : y = n := by omega
        subst hy
        exact ⟨by rw [hcp], rfl, rfl, by rw [hcp, show 24 * d + j + y - y = 24 * d + j by omega], rfl, rfl⟩
      · refine x_iload_n (pc := 157) hC dX12_copy_157 rfl ?_
        refine x_iload (pc := 158) hC dX12_copy_158 rfl ?_
        refine x_icmp_ge (pc := 160) hC 173 dX12_copy_160 (by decide) (by omega) (by omega) (fun h => by omega) (fun _ => ?_)
        refine x_iload (pc := 163) hC dX12_copy_163 rfl ?_
        refine x_iconst (pc := 165) hC dX12_copy_165 ?_
        refine x_isub (pc := 166) hC dX12_copy_166 ?_
        refine x_iload (pc := 167) hC dX12_copy_167 rfl ?_
        refine x_isub (pc := 169) hC dX12_copy_169 ?_
        refine x_goto (pc := 170) hC 175 dX12_copy_170 (by decide) ?_
        refine x_istore (pc := 175) hC dX12_copy_175 (Nat.le_of_ble_eq_true rfl) ?_
        dsimp only [List.set]
        refine x_aload_n (pc := 177) hC dX12_copy_177 rfl ?_
        refine x_getO (pc := 178) hC gf_X12_106 dX12_copy_178 M.1 (mo_cells M).1 ?_
        refine x_bipush (pc := 181) hC dX12_copy_181 (by decide) ?_
        refine x_iload_n (pc := 183) hC dX12_copy_183 rfl ?_
        refine x_imul (pc := 184) hC dX12_copy_184 ?_
        refine x_iload (pc := 185) hC dX12_copy_185 rfl ?_
        refine x_iadd (pc := 187) hC dX12_copy_187 ?_
        refine x_iload (pc := 188) hC dX12_copy_188 rfl ?_
        refine x_iadd (pc := 190) hC dX12_copy_190 ?_
        refine x_aload_n (pc := 191) hC dX12_copy_191 rfl ?_
        refine x_getO (pc := 192) hC gf_X12_106 dX12_copy_192 M.1 (mo_cells M).1 ?_
        refine x_bipush (pc := 195) hC dX12_copy_195 (by decide) ?_
        refine x_iload_n (pc := 197) hC dX12_copy_197 rfl ?_
        refine x_imul (pc := 198) hC dX12_copy_198 ?_
        refine x_iload_n (pc := 199) hC dX12_copy_199 rfl ?_
        refine x_iadd (pc := 200) hC dX12_copy_200 ?_
        refine x_iload (pc := 201) hC dX12_copy_201 rfl ?_
        refine x_iadd (pc := 203) hC dX12_copy_203 ?_
        refine x_iald (pc := 204) hC dX12_copy_204 (mo_cells M).2.1 (by omega) (by rw [(mo_cells M).2.2]; omega) ?_
        refine x_iast (pc := 205) hC dX12_copy_205 (mo_cells M).2.1 (by omega) (by rw [(mo_cells M).2.2]; omega) ?_
        refine x_iinc (pc := 206) hC dX12_copy_206 rfl ?_
        dsimp only [List.set]
        refine x_goto (pc := 209) hC 150 dX12_copy_209 (by decide) ?_
        rw [axf_out (by omega), axf_down h0 (by omega) (by congr 1; omega)]
        have := ih (y + 1) (vI (n - 1 - y)) (by omega) (by omega) (by omega)
        rw [show 24 * d + j + n - (y + 1) = 24 * d + j + n - y - 1 by omega] at this
        exact this
  refine x_iload_n (pc := 0) hC dX12_copy_0 rfl ?_
  refine x_mS (pc := 1) hC cs_X12_186 dX12_copy_1 (m_isSlot hs) rfl (by decide) rfl rfl (Nat.le_of_ble_eq_true rfl) ?_
  refine x_ifB_eq (pc := 4) hC 14 dX12_copy_4 (by decide) (fun b4 => ?_) (fun b4 => ?_)
  · refine x_aload_n (pc := 14) hC dX12_copy_14 rfl ?_
    refine x_iconst (pc := 15) hC dX12_copy_15 ?_
    refine x_mV (pc := 16) hC cv_X12_325 dX12_copy_16 (m_refused M) M.1 rfl (by decide) rfl rfl (Nat.le_of_ble_eq_true rfl) ?_
    refine x_iret (pc := 19) hC rfl dX12_copy_19 ?_
    refine ⟨?_, rfl, rfl, ?_, rfl, rfl⟩
    · unfold cp; rw [if_neg (by omega)]; try rfl
    · unfold cp; rw [if_neg (by omega)]; try rfl
  · refine x_iload_n (pc := 7) hC dX12_copy_7 rfl ?_
    refine x_mS (pc := 8) hC cs_X12_186 dX12_copy_8 (m_isSlot hd) rfl (by decide) rfl rfl (Nat.le_of_ble_eq_true rfl) ?_
    refine x_ifB_ne (pc := 11) hC 20 dX12_copy_11 (by decide) (fun b11 => ?_) (fun b11 => ?_)
    · refine x_aload_n (pc := 20) hC dX12_copy_20 rfl ?_
      refine x_getO (pc := 21) hC gf_X12_100 dX12_copy_21 M.1 (mo_slotSort M).1 ?_
      refine x_iload_n (pc := 24) hC dX12_copy_24 rfl ?_
      refine x_iald (pc := 25) hC dX12_copy_25 (mo_slotSort M).2.1 (by omega) (by rw [(mo_slotSort M).2.2]; omega) ?_
      refine x_bipush (pc := 26) hC dX12_copy_26 (by decide) ?_
      refine x_icmp_eq (pc := 28) hC 42 dX12_copy_28 (by decide) (by omega) (by omega) (fun b28 => ?_) (fun b28 => ?_)
      · refine x_aload_n (pc := 42) hC dX12_copy_42 rfl ?_
        refine x_iconst (pc := 43) hC dX12_copy_43 ?_
        refine x_mV (pc := 44) hC cv_X12_192 dX12_copy_44 (m_fails M) M.1 rfl (by decide) rfl rfl (Nat.le_of_ble_eq_true rfl) ?_
        refine x_iret (pc := 47) hC rfl dX12_copy_47 ?_
        refine ⟨?_, rfl, rfl, ?_, rfl, rfl⟩
        · unfold cp; rw [if_pos ⟨b4, b11⟩, if_pos (by omega)]; try rfl
        · unfold cp; rw [if_pos ⟨b4, b11⟩, if_pos (by omega)]; try rfl
      · refine x_aload_n (pc := 31) hC dX12_copy_31 rfl ?_
        refine x_getO (pc := 32) hC gf_X12_100 dX12_copy_32 M.1 (mo_slotSort M).1 ?_
        refine x_iload_n (pc := 35) hC dX12_copy_35 rfl ?_
        refine x_iald (pc := 36) hC dX12_copy_36 (mo_slotSort M).2.1 (by omega) (by rw [(mo_slotSort M).2.2]; omega) ?_
        refine x_bipush (pc := 37) hC dX12_copy_37 (by decide) ?_
        refine x_icmp_ne (pc := 39) hC 48 dX12_copy_39 (by decide) (by omega) (by omega) (fun b39 => ?_) (fun b39 => ?_)
        · refine x_aload_n (pc := 48) hC dX12_copy_48 rfl ?_
          refine x_getO (pc := 49) hC gf_X12_100 dX12_copy_49 M.1 (mo_slotSort M).1 ?_
          refine x_iload_n (pc := 52) hC dX12_copy_52 rfl ?_
          refine x_iald (pc := 53) hC dX12_copy_53 (mo_slotSort M).2.1 (by omega) (by rw [(mo_slotSort M).2.2]; omega) ?_
          refine x_iconst (pc := 54) hC dX12_copy_54 ?_
          refine x_icmp_eq (pc := 55) hC 73 dX12_copy_55 (by decide) (by omega) (by omega) (fun b55 => ?_) (fun b55 => ?_)
          · refine x_aload_n (pc := 73) hC dX12_copy_73 rfl ?_
            refine x_iconst (pc := 74) hC dX12_copy_74 ?_
            refine x_mV (pc := 75) hC cv_X12_192 dX12_copy_75 (m_fails M) M.1 rfl (by decide) rfl rfl (Nat.le_of_ble_eq_true rfl) ?_
            refine x_iret (pc := 78) hC rfl dX12_copy_78 ?_
            refine ⟨?_, rfl, rfl, ?_, rfl, rfl⟩
            · unfold cp; rw [if_pos ⟨b4, b11⟩, if_neg (by omega), if_pos (by omega)]; try rfl
            · unfold cp; rw [if_pos ⟨b4, b11⟩, if_neg (by omega), if_pos (by omega)]; try rfl
          · refine x_aload_n (pc := 58) hC dX12_copy_58 rfl ?_
            refine x_getO (pc := 59) hC gf_X12_100 dX12_copy_59 M.1 (mo_slotSort M).1 ?_
            refine x_iload_n (pc := 62) hC dX12_copy_62 rfl ?_
            refine x_iald (pc := 63) hC dX12_copy_63 (mo_slotSort M).2.1 (by omega) (by rw [(mo_slotSort M).2.2]; omega) ?_
            refine x_aload_n (pc := 64) hC dX12_copy_64 rfl ?_
            refine x_getO (pc := 65) hC gf_X12_100 dX12_copy_65 M.1 (mo_slotSort M).1 ?_
            refine x_iload_n (pc := 68) hC dX12_copy_68 rfl ?_
            refine x_iald (pc := 69) hC dX12_copy_69 (mo_slotSort M).2.1 (by omega) (by rw [(mo_slotSort M).2.2]; omega) ?_
            refine x_icmp_eq (pc := 70) hC 79 dX12_copy_70 (by decide) (by omega) (by omega) (fun b70 => ?_) (fun b70 => ?_)
            · refine x_iload_n (pc := 79) hC dX12_copy_79 rfl ?_
              refine x_if_lt (pc := 80) hC 141 dX12_copy_80 (by decide) (by omega) (fun b80 => ?_) (fun b80 => ?_)
              · refine x_aload_n (pc := 141) hC dX12_copy_141 rfl ?_
                refine x_iconst (pc := 142) hC dX12_copy_142 ?_
                refine x_mV (pc := 143) hC cv_X12_192 dX12_copy_143 (m_fails M) M.1 rfl (by decide) rfl rfl (Nat.le_of_ble_eq_true rfl) ?_
                refine x_iret (pc := 146) hC rfl dX12_copy_146 ?_
                refine ⟨?_, rfl, rfl, ?_, rfl, rfl⟩
                · unfold cp; rw [if_pos ⟨b4, b11⟩, if_neg (by omega), if_neg (by omega), if_neg (by omega)]; try rfl
                · unfold cp; rw [if_pos ⟨b4, b11⟩, if_neg (by omega), if_neg (by omega), if_neg (by omega)]; try rfl
              · refine x_iload (pc := 83) hC dX12_copy_83 rfl ?_
                refine x_if_lt (pc := 85) hC 141 dX12_copy_85 (by decide) (by omega) (fun b85 => ?_) (fun b85 => ?_)
                · refine x_aload_n (pc := 141) hC dX12_copy_141 rfl ?_
                  refine x_iconst (pc := 142) hC dX12_copy_142 ?_
                  refine x_mV (pc := 143) hC cv_X12_192 dX12_copy_143 (m_fails M) M.1 rfl (by decide) rfl rfl (Nat.le_of_ble_eq_true rfl) ?_
                  refine x_iret (pc := 146) hC rfl dX12_copy_146 ?_
                  refine ⟨?_, rfl, rfl, ?_, rfl, rfl⟩
                  · unfold cp; rw [if_pos ⟨b4, b11⟩, if_neg (by omega), if_neg (by omega), if_neg (by omega)]; try rfl
                  · unfold cp; rw [if_pos ⟨b4, b11⟩, if_neg (by omega), if_neg (by omega), if_neg (by omega)]; try rfl
                · refine x_iload (pc := 88) hC dX12_copy_88 rfl ?_
                  refine x_if_lt (pc := 90) hC 141 dX12_copy_90 (by decide) (by omega) (fun b90 => ?_) (fun b90 => ?_)
                  · refine x_aload_n (pc := 141) hC dX12_copy_141 rfl ?_
                    refine x_iconst (pc := 142) hC dX12_copy_142 ?_
                    refine x_mV (pc := 143) hC cv_X12_192 dX12_copy_143 (m_fails M) M.1 rfl (by decide) rfl rfl (Nat.le_of_ble_eq_true rfl) ?_
                    refine x_iret (pc := 146) hC rfl dX12_copy_146 ?_
                    refine ⟨?_, rfl, rfl, ?_, rfl, rfl⟩
                    · unfold cp; rw [if_pos ⟨b4, b11⟩, if_neg (by omega), if_neg (by omega), if_neg (by omega)]; try rfl
                    · unfold cp; rw [if_pos ⟨b4, b11⟩, if_neg (by omega), if_neg (by omega), if_neg (by omega)]; try rfl
                  · refine x_iload_n (pc := 93) hC dX12_copy_93 rfl ?_
                    refine x_aload_n (pc := 94) hC dX12_copy_94 rfl ?_
                    refine x_getO (pc := 95) hC gf_X12_103 dX12_copy_95 M.1 (mo_slotSize M).1 ?_
                    refine x_iload_n (pc := 98) hC dX12_copy_98 rfl ?_
                    refine x_iald (pc := 99) hC dX12_copy_99 (mo_slotSize M).2.1 (by omega) (by rw [(mo_slotSize M).2.2]; omega) ?_
                    refine x_icmp_gt (pc := 100) hC 141 dX12_copy_100 (by decide) (by omega) (by omega) (fun b100 => ?_) (fun b100 => ?_)
                    · refine x_aload_n (pc := 141) hC dX12_copy_141 rfl ?_
                      refine x_iconst (pc := 142) hC dX12_copy_142 ?_
                      refine x_mV (pc := 143) hC cv_X12_192 dX12_copy_143 (m_fails M) M.1 rfl (by decide) rfl rfl (Nat.le_of_ble_eq_true rfl) ?_
                      refine x_iret (pc := 146) hC rfl dX12_copy_146 ?_
                      refine ⟨?_, rfl, rfl, ?_, rfl, rfl⟩
                      · unfold cp; rw [if_pos ⟨b4, b11⟩, if_neg (by omega), if_neg (by omega), if_neg (by omega)]; try rfl
                      · unfold cp; rw [if_pos ⟨b4, b11⟩, if_neg (by omega), if_neg (by omega), if_neg (by omega)]; try rfl
                    · refine x_iload (pc := 103) hC dX12_copy_103 rfl ?_
                      refine x_aload_n (pc := 105) hC dX12_copy_105 rfl ?_
                      refine x_getO (pc := 106) hC gf_X12_103 dX12_copy_106 M.1 (mo_slotSize M).1 ?_
                      refine x_iload_n (pc := 109) hC dX12_copy_109 rfl ?_
                      refine x_iald (pc := 110) hC dX12_copy_110 (mo_slotSize M).2.1 (by omega) (by rw [(mo_slotSize M).2.2]; omega) ?_
                      refine x_icmp_gt (pc := 111) hC 141 dX12_copy_111 (by decide) (by omega) (by omega) (fun b111 => ?_) (fun b111 => ?_)
                      · refine x_aload_n (pc := 141) hC dX12_copy_141 rfl ?_
                        refine x_iconst (pc := 142) hC dX12_copy_142 ?_
                        refine x_mV (pc := 143) hC cv_X12_192 dX12_copy_143 (m_fails M) M.1 rfl (by decide) rfl rfl (Nat.le_of_ble_eq_true rfl) ?_
                        refine x_iret (pc := 146) hC rfl dX12_copy_146 ?_
                        refine ⟨?_, rfl, rfl, ?_, rfl, rfl⟩
                        · unfold cp; rw [if_pos ⟨b4, b11⟩, if_neg (by omega), if_neg (by omega), if_neg (by omega)]; try rfl
                        · unfold cp; rw [if_pos ⟨b4, b11⟩, if_neg (by omega), if_neg (by omega), if_neg (by omega)]; try rfl
                      · refine x_iload (pc := 114) hC dX12_copy_114 rfl ?_
                        refine x_aload_n (pc := 116) hC dX12_copy_116 rfl ?_
                        refine x_getO (pc := 117) hC gf_X12_103 dX12_copy_117 M.1 (mo_slotSize M).1 ?_
                        refine x_iload_n (pc := 120) hC dX12_copy_120 rfl ?_
                        refine x_iald (pc := 121) hC dX12_copy_121 (mo_slotSize M).2.1 (by omega) (by rw [(mo_slotSize M).2.2]; omega) ?_
                        refine x_iload_n (pc := 122) hC dX12_copy_122 rfl ?_
                        refine x_isub (pc := 123) hC dX12_copy_123 ?_
                        refine x_icmp_gt (pc := 124) hC 141 dX12_copy_124 (by decide) (by omega) (by omega) (fun b124 => ?_) (fun b124 => ?_)
                        · refine x_aload_n (pc := 141) hC dX12_copy_141 rfl ?_
                          refine x_iconst (pc := 142) hC dX12_copy_142 ?_
                          refine x_mV (pc := 143) hC cv_X12_192 dX12_copy_143 (m_fails M) M.1 rfl (by decide) rfl rfl (Nat.le_of_ble_eq_true rfl) ?_
                          refine x_iret (pc := 146) hC rfl dX12_copy_146 ?_
                          refine ⟨?_, rfl, rfl, ?_, rfl, rfl⟩
                          · unfold cp; rw [if_pos ⟨b4, b11⟩, if_neg (by omega), if_neg (by omega), if_neg (by omega)]; try rfl
                          · unfold cp; rw [if_pos ⟨b4, b11⟩, if_neg (by omega), if_neg (by omega), if_neg (by omega)]; try rfl
                        · refine x_iload (pc := 127) hC dX12_copy_127 rfl ?_
                          refine x_aload_n (pc := 129) hC dX12_copy_129 rfl ?_
                          refine x_getO (pc := 130) hC gf_X12_103 dX12_copy_130 M.1 (mo_slotSize M).1 ?_
                          refine x_iload_n (pc := 133) hC dX12_copy_133 rfl ?_
                          refine x_iald (pc := 134) hC dX12_copy_134 (mo_slotSize M).2.1 (by omega) (by rw [(mo_slotSize M).2.2]; omega) ?_
                          refine x_iload (pc := 135) hC dX12_copy_135 rfl ?_
                          refine x_isub (pc := 137) hC dX12_copy_137 ?_
                          refine x_icmp_le (pc := 138) hC 147 dX12_copy_138 (by decide) (by omega) (by omega) (fun b138 => ?_) (fun b138 => ?_)
                          · have hcp : (cp I o s i d j n) = (n, ax_u (ax_f I (o + 33) (24 * d + j) n (fun q => I (o + 33) (24 * s + i + (q - (24 * d + j))))) o 0 0) := by
                              unfold cp
                              rw [if_pos ⟨b4, b11⟩, if_neg (by omega), if_neg (by omega), if_pos (by omega)]
                            refine x_iconst (pc := 147) hC dX12_copy_147 ?_
                            refine x_istore (pc := 148) hC dX12_copy_148 (Nat.le_of_ble_eq_true rfl) ?_
                            dsimp only [List.set]
                            rcases Int.lt_or_le i j with hij | hij
                            · have := dn b4 b11 (by omega) hij hcp _ 0 vU (Nat.le_refl _) (by omega) (by omega)
                              rw [axf_0] at this
                              exact this
                            · have := up b4 b11 (by omega) hij hcp _ 0 vU (Nat.le_refl _) (by omega) (by omega)
                              rw [axf_0] at this
                              exact this
                          · refine x_aload_n (pc := 141) hC dX12_copy_141 rfl ?_
                            refine x_iconst (pc := 142) hC dX12_copy_142 ?_
                            refine x_mV (pc := 143) hC cv_X12_192 dX12_copy_143 (m_fails M) M.1 rfl (by decide) rfl rfl (Nat.le_of_ble_eq_true rfl) ?_
                            refine x_iret (pc := 146) hC rfl dX12_copy_146 ?_
                            refine ⟨?_, rfl, rfl, ?_, rfl, rfl⟩
                            · unfold cp; rw [if_pos ⟨b4, b11⟩, if_neg (by omega), if_neg (by omega), if_neg (by omega)]; try rfl
                            · unfold cp; rw [if_pos ⟨b4, b11⟩, if_neg (by omega), if_neg (by omega), if_neg (by omega)]; try rfl
            · refine x_aload_n (pc := 73) hC dX12_copy_73 rfl ?_
              refine x_iconst (pc := 74) hC dX12_copy_74 ?_
              refine x_mV (pc := 75) hC cv_X12_192 dX12_copy_75 (m_fails M) M.1 rfl (by decide) rfl rfl (Nat.le_of_ble_eq_true rfl) ?_
              refine x_iret (pc := 78) hC rfl dX12_copy_78 ?_
              refine ⟨?_, rfl, rfl, ?_, rfl, rfl⟩
              · unfold cp; rw [if_pos ⟨b4, b11⟩, if_neg (by omega), if_pos (by omega)]; try rfl
              · unfold cp; rw [if_pos ⟨b4, b11⟩, if_neg (by omega), if_pos (by omega)]; try rfl
        · refine x_aload_n (pc := 42) hC dX12_copy_42 rfl ?_
          refine x_iconst (pc := 43) hC dX12_copy_43 ?_
          refine x_mV (pc := 44) hC cv_X12_192 dX12_copy_44 (m_fails M) M.1 rfl (by decide) rfl rfl (Nat.le_of_ble_eq_true rfl) ?_
          refine x_iret (pc := 47) hC rfl dX12_copy_47 ?_
          refine ⟨?_, rfl, rfl, ?_, rfl, rfl⟩
          · unfold cp; rw [if_pos ⟨b4, b11⟩, if_pos (by omega)]; try rfl
          · unfold cp; rw [if_pos ⟨b4, b11⟩, if_pos (by omega)]; try rfl
    · refine x_aload_n (pc := 14) hC dX12_copy_14 rfl ?_
      refine x_iconst (pc := 15) hC dX12_copy_15 ?_
      refine x_mV (pc := 16) hC cv_X12_325 dX12_copy_16 (m_refused M) M.1 rfl (by decide) rfl rfl (Nat.le_of_ble_eq_true rfl) ?_
      refine x_iret (pc := 19) hC rfl dX12_copy_19 ?_
      refine ⟨?_, rfl, rfl, ?_, rfl, rfl⟩
      · unfold cp; rw [if_neg (by omega)]; try rfl
      · unfold cp; rw [if_neg (by omega)]; try rfl

set_option maxHeartbeats 4000000 in
set_option maxRecDepth 100000 in
theorem m_tell {G : ax_G} {T : Nat → Nat} {N : Nat → Int} {I : Nat → Int → Int} {R : Nat → Int → Option Nat} {z o : Nat} (M : axMo T N R o) {c : Int} (hm : miC I o) (hc : ax_r c) : axE G YX12_tell 2 [vR o, vI c] T N I R z (some (vI (te I o c).1)) (te I o c).2 := by

  refine ax_enter (by decide) (Nat.le_of_ble_eq_true rfl) (ax_cat rfl) (fun f hC => ?_)
  show axX G f 0 0 _ 0 [vR o, vI c] [] T N I R z 0 0
  have hmm := hm.1
  have hk := hm.2.2.2.2.2 c
  refine x_aload_n (pc := 0) hC dX12_tell_0 rfl ?_
  refine x_iload_n (pc := 1) hC dX12_tell_1 rfl ?_
  refine x_mV (pc := 2) hC cv_X12_171 dX12_tell_2 (m_isCommit M hc (by omega)) M.1 rfl (by decide) rfl rfl (Nat.le_of_ble_eq_true rfl) ?_
  refine x_ifB_ne (pc := 5) hC 10 dX12_tell_5 (by decide) (fun b5 => ?_) (fun b5 => ?_)
  · refine x_aload_n (pc := 10) hC dX12_tell_10 rfl ?_
    refine x_getO (pc := 11) hC gf_X12_7 dX12_tell_11 M.1 (mo_kind M).1 ?_
    refine x_iload_n (pc := 14) hC dX12_tell_14 rfl ?_
    refine x_iald (pc := 15) hC dX12_tell_15 (mo_kind M).2.1 (by omega) (by rw [(mo_kind M).2.2]; omega) ?_
    refine x_if_le (pc := 16) hC 40 dX12_tell_16 (by decide) (by omega) (fun b16 => ?_) (fun b16 => ?_)
    · refine x_aload_n (pc := 40) hC dX12_tell_40 rfl ?_
      refine x_bipush (pc := 41) hC dX12_tell_41 (by decide) ?_
      refine x_mV (pc := 43) hC cv_X12_135 dX12_tell_43 (m_leaves M) M.1 rfl (by decide) rfl rfl (Nat.le_of_ble_eq_true rfl) ?_
      dsimp only [Option.toList, List.nil_append]
      try rw [axu_uu, axu_s]
      refine x_aload_n (pc := 46) hC dX12_tell_46 rfl ?_
      refine x_getO (pc := 47) hC gf_X12_25 dX12_tell_47 M.1 (mo_size M).1 ?_
      refine x_iload_n (pc := 50) hC dX12_tell_50 rfl ?_
      refine x_iald (pc := 51) hC dX12_tell_51 (mo_size M).2.1 (by omega) (by rw [(mo_size M).2.2]; omega) ?_
      refine x_bipush (pc := 52) hC dX12_tell_52 (by decide) ?_
      refine x_aload_n (pc := 54) hC dX12_tell_54 rfl ?_
      refine x_getO (pc := 55) hC gf_X12_7 dX12_tell_55 M.1 (mo_kind M).1 ?_
      refine x_iload_n (pc := 58) hC dX12_tell_58 rfl ?_
      refine x_iald (pc := 59) hC dX12_tell_59 (mo_kind M).2.1 (by omega) (by rw [(mo_kind M).2.2]; omega) ?_
      refine x_imul (pc := 60) hC dX12_tell_60 ?_
      refine x_iadd (pc := 61) hC dX12_tell_61 ?_
      refine x_iret (pc := 62) hC rfl dX12_tell_62 ?_
      refine ⟨?_, rfl, rfl, ?_, rfl, rfl⟩
      · unfold te; rw [if_pos b5, axu_a (by omega), axu_a (by omega)]
      · unfold te; rw [if_pos b5]
        first
        | (rw [if_pos (by omega), if_pos (by omega)]; done)
        | (rw [if_pos (by omega), if_neg (by omega)]; done)
        | (rw [if_neg (by omega)]; done)
    · refine x_aload_n (pc := 19) hC dX12_tell_19 rfl ?_
      refine x_aload_n (pc := 20) hC dX12_tell_20 rfl ?_
      refine x_getO (pc := 21) hC gf_X12_7 dX12_tell_21 M.1 (mo_kind M).1 ?_
      refine x_iload_n (pc := 24) hC dX12_tell_24 rfl ?_
      refine x_iald (pc := 25) hC dX12_tell_25 (mo_kind M).2.1 (by omega) (by rw [(mo_kind M).2.2]; omega) ?_
      refine x_iconst (pc := 26) hC dX12_tell_26 ?_
      refine x_icmp_ne (pc := 27) hC 35 dX12_tell_27 (by decide) (by omega) (by omega) (fun b27 => ?_) (fun b27 => ?_)
      · refine x_bipush (pc := 35) hC dX12_tell_35 (by decide) ?_
        refine x_mV (pc := 37) hC cv_X12_135 dX12_tell_37 (m_leaves M) M.1 rfl (by decide) rfl rfl (Nat.le_of_ble_eq_true rfl) ?_
        dsimp only [Option.toList, List.nil_append]
        try rw [axu_uu, axu_s]
        refine x_aload_n (pc := 40) hC dX12_tell_40 rfl ?_
        refine x_bipush (pc := 41) hC dX12_tell_41 (by decide) ?_
        refine x_mV (pc := 43) hC cv_X12_135 dX12_tell_43 (m_leaves M) M.1 rfl (by decide) rfl rfl (Nat.le_of_ble_eq_true rfl) ?_
        dsimp only [Option.toList, List.nil_append]
        try rw [axu_uu, axu_s]
        refine x_aload_n (pc := 46) hC dX12_tell_46 rfl ?_
        refine x_getO (pc := 47) hC gf_X12_25 dX12_tell_47 M.1 (mo_size M).1 ?_
        refine x_iload_n (pc := 50) hC dX12_tell_50 rfl ?_
        refine x_iald (pc := 51) hC dX12_tell_51 (mo_size M).2.1 (by omega) (by rw [(mo_size M).2.2]; omega) ?_
        refine x_bipush (pc := 52) hC dX12_tell_52 (by decide) ?_
        refine x_aload_n (pc := 54) hC dX12_tell_54 rfl ?_
        refine x_getO (pc := 55) hC gf_X12_7 dX12_tell_55 M.1 (mo_kind M).1 ?_
        refine x_iload_n (pc := 58) hC dX12_tell_58 rfl ?_
        refine x_iald (pc := 59) hC dX12_tell_59 (mo_kind M).2.1 (by omega) (by rw [(mo_kind M).2.2]; omega) ?_
        refine x_imul (pc := 60) hC dX12_tell_60 ?_
        refine x_iadd (pc := 61) hC dX12_tell_61 ?_
        refine x_iret (pc := 62) hC rfl dX12_tell_62 ?_
        refine ⟨?_, rfl, rfl, ?_, rfl, rfl⟩
        · unfold te; rw [if_pos b5, axu_a (by omega), axu_a (by omega)]
        · unfold te; rw [if_pos b5]
          first
          | (rw [if_pos (by omega), if_pos (by omega)]; done)
          | (rw [if_pos (by omega), if_neg (by omega)]; done)
          | (rw [if_neg (by omega)]; done)
      · refine x_bipush (pc := 30) hC dX12_tell_30 (by decide) ?_
        refine x_goto (pc := 32) hC 37 dX12_tell_32 (by decide) ?_
        refine x_mV (pc := 37) hC cv_X12_135 dX12_tell_37 (m_leaves M) M.1 rfl (by decide) rfl rfl (Nat.le_of_ble_eq_true rfl) ?_
        dsimp only [Option.toList, List.nil_append]
        try rw [axu_uu, axu_s]
        refine x_aload_n (pc := 40) hC dX12_tell_40 rfl ?_
        refine x_bipush (pc := 41) hC dX12_tell_41 (by decide) ?_
        refine x_mV (pc := 43) hC cv_X12_135 dX12_tell_43 (m_leaves M) M.1 rfl (by decide) rfl rfl (Nat.le_of_ble_eq_true rfl) ?_
        dsimp only [Option.toList, List.nil_append]
        try rw [axu_uu, axu_s]
        refine x_aload_n (pc := 46) hC dX12_tell_46 rfl ?_
        refine x_getO (pc := 47) hC gf_X12_25 dX12_tell_47 M.1 (mo_size M).1 ?_
        refine x_iload_n (pc := 50) hC dX12_tell_50 rfl ?_
        refine x_iald (pc := 51) hC dX12_tell_51 (mo_size M).2.1 (by omega) (by rw [(mo_size M).2.2]; omega) ?_
        refine x_bipush (pc := 52) hC dX12_tell_52 (by decide) ?_
        refine x_aload_n (pc := 54) hC dX12_tell_54 rfl ?_
        refine x_getO (pc := 55) hC gf_X12_7 dX12_tell_55 M.1 (mo_kind M).1 ?_
        refine x_iload_n (pc := 58) hC dX12_tell_58 rfl ?_
        refine x_iald (pc := 59) hC dX12_tell_59 (mo_kind M).2.1 (by omega) (by rw [(mo_kind M).2.2]; omega) ?_
        refine x_imul (pc := 60) hC dX12_tell_60 ?_
        refine x_iadd (pc := 61) hC dX12_tell_61 ?_
        refine x_iret (pc := 62) hC rfl dX12_tell_62 ?_
        refine ⟨?_, rfl, rfl, ?_, rfl, rfl⟩
        · unfold te; rw [if_pos b5, axu_a (by omega), axu_a (by omega)]
        · unfold te; rw [if_pos b5]
          first
          | (rw [if_pos (by omega), if_pos (by omega)]; done)
          | (rw [if_pos (by omega), if_neg (by omega)]; done)
          | (rw [if_neg (by omega)]; done)
  · refine x_iconst (pc := 8) hC dX12_tell_8 ?_
    refine x_iret (pc := 9) hC rfl dX12_tell_9 ?_
    refine ⟨?_, rfl, rfl, ?_, rfl, rfl⟩
    · unfold te; rw [if_neg b5]; try rfl
    · unfold te; rw [if_neg b5]; try rfl

set_option maxHeartbeats 4000000 in
set_option maxRecDepth 100000 in
theorem m_trace {G : ax_G} {T : Nat → Nat} {N : Nat → Int} {I : Nat → Int → Int} {R : Nat → Int → Option Nat} {z o : Nat} (M : axMo T N R o) : axE G YX12_trace 0 [vR o] T N I R z (some (vI (I o 1))) I := by

  refine ax_enter (by decide) (Nat.le_of_ble_eq_true rfl) (ax_cat rfl) (fun f hC => ?_)
  show axX G f 0 0 _ 0 [vR o] [] T N I R z 0 0
  refine x_aload_n (pc := 0) hC dX12_trace_0 rfl ?_
  refine x_getI (pc := 1) hC gf_X12_126 dX12_trace_1 M.1 ?_
  refine x_iret (pc := 4) hC rfl dX12_trace_4 ?_
  exact ⟨rfl, rfl, rfl, rfl, rfl, rfl⟩

set_option maxHeartbeats 4000000 in
set_option maxRecDepth 100000 in
theorem m_fault {G : ax_G} {T : Nat → Nat} {N : Nat → Int} {I : Nat → Int → Int} {R : Nat → Int → Option Nat} {z o : Nat} (M : axMo T N R o) : axE G YX12_fault 0 [vR o] T N I R z (some (vI (I o 0))) I := by

  refine ax_enter (by decide) (Nat.le_of_ble_eq_true rfl) (ax_cat rfl) (fun f hC => ?_)
  show axX G f 0 0 _ 0 [vR o] [] T N I R z 0 0
  refine x_aload_n (pc := 0) hC dX12_fault_0 rfl ?_
  refine x_getI (pc := 1) hC gf_X12_122 dX12_fault_1 M.1 ?_
  refine x_iret (pc := 4) hC rfl dX12_fault_4 ?_
  exact ⟨rfl, rfl, rfl, rfl, rfl, rfl⟩

set_option maxHeartbeats 4000000 in
set_option maxRecDepth 100000 in
theorem m_many {G : ax_G} {T : Nat → Nat} {N : Nat → Int} {I : Nat → Int → Int} {R : Nat → Int → Option Nat} {z o : Nat} (M : axMo T N R o) {w : Int} (hm : miC I o) (hS : miS I o) (hw : ax_r w) : axE G YX12_many 1 [vR o, vI w] T N I R z (some (vI (mnR I o w))) I := by

  refine ax_enter (by decide) (Nat.le_of_ble_eq_true rfl) (ax_cat rfl) (fun f hC => ?_)
  show axX G f 0 0 _ 0 [vR o, vI w, vU, vU] [] T N I R z 0 0
  have hmm := hm.1
  have hp := hm.2.2.1
  have t0 := hm.2.2.2.2.1 0 (by decide) (by decide)
  have t1 := hm.2.2.2.2.1 1 (by decide) (by decide)
  have t2 := hm.2.2.2.2.1 2 (by decide) (by decide)
  have t3 := hm.2.2.2.2.1 3 (by decide) (by decide)
  have l2 : w = 2 → ∀ (n : Nat) (y : Int), ((I o 2) - y).toNat ≤ n → 0 ≤ y → y ≤ (I o 2) → axX G f 0 0 (fun r1 T1 N1 I1 R1 z1 => r1 = some (vI (mnR I o w)) ∧ T1 = T ∧ N1 = N ∧ I1 = I ∧ R1 = R ∧ z1 = z) 44 [vR o, vI w, vI (((seg id 0 y).filter (fun y => decide (y ∈ path (I (o + 2)) (I (o + 7) 0) ∨ y ∈ path (I (o + 2)) (I (o + 7) 1) ∨ y ∈ path (I (o + 2)) (I (o + 7) 2) ∨ y ∈ path (I (o + 2)) (I (o + 7) 3)))).length : Int), vI y] [] T N I R z 0 0 := by
    intro hw2 n
    induction n with
    | zero =>
      intro y hn h0 h1
      refine x_iload_n (pc := 44) hC dX12_many_44 rfl ?_
      refine x_aload_n (pc := 45) hC dX12_many_45 rfl ?_
      refine x_getI (pc := 46) hC gf_X12_129 dX12_many_46 M.1 ?_
      refine x_icmp_ge (pc := 49) hC 122 dX12_many_49 (by decide) (by omega) (by omega) (fun b49 => ?_) (fun b49 => ?_)
      · refine x_iload_n (pc := 122) hC dX12_many_122 rfl ?_
        refine x_iret (pc := 123) hC rfl dX12_many_123 ?_
        have hy : y = (I o 2) := by omega
        subst hy
        exact ⟨by unfold mnR; rw [if_neg (by omega), if_neg (by omega), if_pos hw2], rfl, rfl, rfl, rfl, rfl⟩
      · omega
    | succ n ih =>
      intro y hn h0 h1
      have hsn := seg_snoc (f := id) h0
      have hih := fun h => ih (y + 1) (by omega) (by omega) h
      rw [hsn, List.filter_append, List.length_append] at hih
      have ht : (y ∈ path (I (o + 2)) (I (o + 7) 0) ∨ y ∈ path (I (o + 2)) (I (o + 7) 1) ∨ y ∈ path (I (o + 2)) (I (o + 7) 2) ∨ y ∈ path (I (o + 2)) (I (o + 7) 3)) → ([id y].filter (fun y => decide (y ∈ path (I (o + 2)) (I (o + 7) 0) ∨ y ∈ path (I (o + 2)) (I (o + 7) 1) ∨ y ∈ path (I (o + 2)) (I (o + 7) 2) ∨ y ∈ path (I (o + 2)) (I (o + 7) 3)))).length = 1 := fun h => by
        rw [List.filter_cons_of_pos (by simpa using h)]; rfl
      have hf : ¬ (y ∈ path (I (o + 2)) (I (o + 7) 0) ∨ y ∈ path (I (o + 2)) (I (o + 7) 1) ∨ y ∈ path (I (o + 2)) (I (o + 7) 2) ∨ y ∈ path (I (o + 2)) (I (o + 7) 3)) → ([id y].filter (fun y => decide (y ∈ path (I (o + 2)) (I (o + 7) 0) ∨ y ∈ path (I (o + 2)) (I (o + 7) 1) ∨ y ∈ path (I (o + 2)) (I (o + 7) 2) ∨ y ∈ path (I (o + 2)) (I (o + 7) 3)))).length = 0 := fun h => by
        rw [List.filter_cons_of_neg (by simpa using h)]; rfl
      refine x_iload_n (pc := 44) hC dX12_many_44 rfl ?_
      refine x_aload_n (pc := 45) hC dX12_many_45 rfl ?_
      refine x_getI (pc := 46) hC gf_X12_129 dX12_many_46 M.1 ?_
      refine x_icmp_ge (pc := 49) hC 122 dX12_many_49 (by decide) (by omega) (by omega) (fun b49 => ?_) (fun b49 => ?_)
      · refine x_iload_n (pc := 122) hC dX12_many_122 rfl ?_
        refine x_iret (pc := 123) hC rfl dX12_many_123 ?_
        have hy : y = (I o 2) := by omega
        subst hy
        exact ⟨by unfold mnR; rw [if_neg (by omega), if_neg (by omega), if_pos hw2], rfl, rfl, rfl, rfl, rfl⟩
      · refine x_iload_n (pc := 52) hC dX12_many_52 rfl ?_
        refine x_aload_n (pc := 53) hC dX12_many_53 rfl ?_
        refine x_iload_n (pc := 54) hC dX12_many_54 rfl ?_
        refine x_aload_n (pc := 55) hC dX12_many_55 rfl ?_
        refine x_getO (pc := 56) hC gf_X12_28 dX12_many_56 M.1 (mo_tips M).1 ?_
        refine x_iconst (pc := 59) hC dX12_many_59 ?_
        refine x_iald (pc := 60) hC dX12_many_60 (mo_tips M).2.1 (by omega) (by rw [(mo_tips M).2.2]; omega) ?_
        refine x_mV (pc := 61) hC cv_X12_201 dX12_many_61 (m_isOn M hmm.2 hp h0 (by omega) t0.1 t0.2) M.1 rfl (by decide) rfl rfl (Nat.le_of_ble_eq_true rfl) ?_
        refine x_ifB_ne (pc := 64) hC 109 dX12_many_64 (by decide) (fun b64 => ?_) (fun b64 => ?_)
        · refine x_iconst (pc := 109) hC dX12_many_109 ?_
          refine x_goto (pc := 110) hC 114 dX12_many_110 (by decide) ?_
          refine x_iadd (pc := 114) hC dX12_many_114 ?_
          refine x_istore_n (pc := 115) hC dX12_many_115 (Nat.le_of_ble_eq_true rfl) ?_
          dsimp only [List.set]
          refine x_iinc (pc := 116) hC dX12_many_116 rfl ?_
          dsimp only [List.set]
          refine x_goto (pc := 119) hC 44 dX12_many_119 (by decide) ?_
          first
          | (have hh := hih (by omega)
             rw [ht (Or.inl b64)] at hh
             exact hh)
          | (have hh := hih (by omega)
             rw [ht (Or.inr (Or.inl b78))] at hh
             exact hh)
          | (have hh := hih (by omega)
             rw [ht (Or.inr (Or.inr (Or.inl b92)))] at hh
             exact hh)
          | (have hh := hih (by omega)
             rw [ht (Or.inr (Or.inr (Or.inr b106)))] at hh
             exact hh)
          | (have hh := hih (by omega)
             rw [hf (fun h => by rcases h with h | h | h | h <;> contradiction)] at hh
             exact hh)
        · refine x_aload_n (pc := 67) hC dX12_many_67 rfl ?_
          refine x_iload_n (pc := 68) hC dX12_many_68 rfl ?_
          refine x_aload_n (pc := 69) hC dX12_many_69 rfl ?_
          refine x_getO (pc := 70) hC gf_X12_28 dX12_many_70 M.1 (mo_tips M).1 ?_
          refine x_iconst (pc := 73) hC dX12_many_73 ?_
          refine x_iald (pc := 74) hC dX12_many_74 (mo_tips M).2.1 (by omega) (by rw [(mo_tips M).2.2]; omega) ?_
          refine x_mV (pc := 75) hC cv_X12_201 dX12_many_75 (m_isOn M hmm.2 hp h0 (by omega) t1.1 t1.2) M.1 rfl (by decide) rfl rfl (Nat.le_of_ble_eq_true rfl) ?_
          refine x_ifB_ne (pc := 78) hC 109 dX12_many_78 (by decide) (fun b78 => ?_) (fun b78 => ?_)
          · refine x_iconst (pc := 109) hC dX12_many_109 ?_
            refine x_goto (pc := 110) hC 114 dX12_many_110 (by decide) ?_
            refine x_iadd (pc := 114) hC dX12_many_114 ?_
            refine x_istore_n (pc := 115) hC dX12_many_115 (Nat.le_of_ble_eq_true rfl) ?_
            dsimp only [List.set]
            refine x_iinc (pc := 116) hC dX12_many_116 rfl ?_
            dsimp only [List.set]
            refine x_goto (pc := 119) hC 44 dX12_many_119 (by decide) ?_
            first
            | (have hh := hih (by omega)
               rw [ht (Or.inl b64)] at hh
               exact hh)
            | (have hh := hih (by omega)
               rw [ht (Or.inr (Or.inl b78))] at hh
               exact hh)
            | (have hh := hih (by omega)
               rw [ht (Or.inr (Or.inr (Or.inl b92)))] at hh
               exact hh)
            | (have hh := hih (by omega)
               rw [ht (Or.inr (Or.inr (Or.inr b106)))] at hh
               exact hh)
            | (have hh := hih (by omega)
               rw [hf (fun h => by rcases h with h | h | h | h <;> contradiction)] at hh
               exact hh)
          · refine x_aload_n (pc := 81) hC dX12_many_81 rfl ?_
            refine x_iload_n (pc := 82) hC dX12_many_82 rfl ?_
            refine x_aload_n (pc := 83) hC dX12_many_83 rfl ?_
            refine x_getO (pc := 84) hC gf_X12_28 dX12_many_84 M.1 (mo_tips M).1 ?_
            refine x_iconst (pc := 87) hC dX12_many_87 ?_
            refine x_iald (pc := 88) hC dX12_many_88 (mo_tips M).2.1 (by omega) (by rw [(mo_tips M).2.2]; omega) ?_
            refine x_mV (pc := 89) hC cv_X12_201 dX12_many_89 (m_isOn M hmm.2 hp h0 (by omega) t2.1 t2.2) M.1 rfl (by decide) rfl rfl (Nat.le_of_ble_eq_true rfl) ?_
            refine x_ifB_ne (pc := 92) hC 109 dX12_many_92 (by decide) (fun b92 => ?_) (fun b92 => ?_)
            · refine x_iconst (pc := 109) hC dX12_many_109 ?_
              refine x_goto (pc := 110) hC 114 dX12_many_110 (by decide) ?_
              refine x_iadd (pc := 114) hC dX12_many_114 ?_
              refine x_istore_n (pc := 115) hC dX12_many_115 (Nat.le_of_ble_eq_true rfl) ?_
              dsimp only [List.set]
              refine x_iinc (pc := 116) hC dX12_many_116 rfl ?_
              dsimp only [List.set]
              refine x_goto (pc := 119) hC 44 dX12_many_119 (by decide) ?_
              first
              | (have hh := hih (by omega)
                 rw [ht (Or.inl b64)] at hh
                 exact hh)
              | (have hh := hih (by omega)
                 rw [ht (Or.inr (Or.inl b78))] at hh
                 exact hh)
              | (have hh := hih (by omega)
                 rw [ht (Or.inr (Or.inr (Or.inl b92)))] at hh
                 exact hh)
              | (have hh := hih (by omega)
                 rw [ht (Or.inr (Or.inr (Or.inr b106)))] at hh
                 exact hh)
              | (have hh := hih (by omega)
                 rw [hf (fun h => by rcases h with h | h | h | h <;> contradiction)] at hh
                 exact hh)
            · refine x_aload_n (pc := 95) hC dX12_many_95 rfl ?_
              refine x_iload_n (pc := 96) hC dX12_many_96 rfl ?_
              refine x_aload_n (pc := 97) hC dX12_many_97 rfl ?_
              refine x_getO (pc := 98) hC gf_X12_28 dX12_many_98 M.1 (mo_tips M).1 ?_
              refine x_iconst (pc := 101) hC dX12_many_101 ?_
              refine x_iald (pc := 102) hC dX12_many_102 (mo_tips M).2.1 (by omega) (by rw [(mo_tips M).2.2]; omega) ?_
              refine x_mV (pc := 103) hC cv_X12_201 dX12_many_103 (m_isOn M hmm.2 hp h0 (by omega) t3.1 t3.2) M.1 rfl (by decide) rfl rfl (Nat.le_of_ble_eq_true rfl) ?_
              refine x_ifB_eq (pc := 106) hC 113 dX12_many_106 (by decide) (fun b106 => ?_) (fun b106 => ?_)
              · refine x_iconst (pc := 113) hC dX12_many_113 ?_
                refine x_iadd (pc := 114) hC dX12_many_114 ?_
                refine x_istore_n (pc := 115) hC dX12_many_115 (Nat.le_of_ble_eq_true rfl) ?_
                dsimp only [List.set]
                refine x_iinc (pc := 116) hC dX12_many_116 rfl ?_
                dsimp only [List.set]
                refine x_goto (pc := 119) hC 44 dX12_many_119 (by decide) ?_
                first
                | (have hh := hih (by omega)
                   rw [ht (Or.inl b64)] at hh
                   exact hh)
                | (have hh := hih (by omega)
                   rw [ht (Or.inr (Or.inl b78))] at hh
                   exact hh)
                | (have hh := hih (by omega)
                   rw [ht (Or.inr (Or.inr (Or.inl b92)))] at hh
                   exact hh)
                | (have hh := hih (by omega)
                   rw [ht (Or.inr (Or.inr (Or.inr b106)))] at hh
                   exact hh)
                | (have hh := hih (by omega)
                   rw [hf (fun h => by rcases h with h | h | h | h <;> contradiction)] at hh
                   exact hh)
              · refine x_iconst (pc := 109) hC dX12_many_109 ?_
                refine x_goto (pc := 110) hC 114 dX12_many_110 (by decide) ?_
                refine x_iadd (pc := 114) hC dX12_many_114 ?_
                refine x_istore_n (pc := 115) hC dX12_many_115 (Nat.le_of_ble_eq_true rfl) ?_
                dsimp only [List.set]
                refine x_iinc (pc := 116) hC dX12_many_116 rfl ?_
                dsimp only [List.set]
                refine x_goto (pc := 119) hC 44 dX12_many_119 (by decide) ?_
                first
                | (have hh := hih (by omega)
                   rw [ht (Or.inl b64)] at hh
                   exact hh)
                | (have hh := hih (by omega)
                   rw [ht (Or.inr (Or.inl b78))] at hh
                   exact hh)
                | (have hh := hih (by omega)
                   rw [ht (Or.inr (Or.inr (Or.inl b92)))] at hh
                   exact hh)
                | (have hh := hih (by omega)
                   rw [ht (Or.inr (Or.inr (Or.inr b106)))] at hh
                   exact hh)
                | (have hh := hih (by omega)
                   rw [hf (fun h => by rcases h with h | h | h | h <;> contradiction)] at hh
                   exact hh)
  have l3 : w = 3 → ∀ (n : Nat) (y : Int), (5 - y).toNat ≤ n → 0 ≤ y → y ≤ 5 → axX G f 0 0 (fun r1 T1 N1 I1 R1 z1 => r1 = some (vI (mnR I o w)) ∧ T1 = T ∧ N1 = N ∧ I1 = I ∧ R1 = R ∧ z1 = z) 126 [vR o, vI w, vI (((seg id 0 y).filter (fun s => decide (I (o + 31) s ≠ -9))).length : Int), vI y] [] T N I R z 0 0 := by
    intro hw2 n
    induction n with
    | zero =>
      intro y hn h0 h1
      refine x_iload_n (pc := 126) hC dX12_many_126 rfl ?_
      refine x_iconst (pc := 127) hC dX12_many_127 ?_
      refine x_icmp_ge (pc := 128) hC 156 dX12_many_128 (by decide) (by omega) (by omega) (fun b128 => ?_) (fun b128 => ?_)
      · refine x_iload_n (pc := 156) hC dX12_many_156 rfl ?_
        refine x_iret (pc := 157) hC rfl dX12_many_157 ?_
        have hy : y = 5 := by omega
        subst hy
        exact ⟨by unfold mnR; rw [if_neg (by omega), if_neg (by omega), if_neg (by omega), if_pos hw2], rfl, rfl, rfl, rfl, rfl⟩
      · omega
    | succ n ih =>
      intro y hn h0 h1
      have hsn := seg_snoc (f := id) h0
      have hih := fun h => ih (y + 1) (by omega) (by omega) h
      rw [hsn, List.filter_append, List.length_append] at hih
      have h31 := hS.1 y
      have ht : (I (o + 31) y ≠ -9) → ([id y].filter (fun s => decide (I (o + 31) s ≠ -9))).length = 1 := fun h => by
        rw [List.filter_cons_of_pos (by simpa using h)]; rfl
      have hf : (I (o + 31) y = -9) → ([id y].filter (fun s => decide (I (o + 31) s ≠ -9))).length = 0 := fun h => by
        rw [List.filter_cons_of_neg (by simpa using h)]; rfl
      refine x_iload_n (pc := 126) hC dX12_many_126 rfl ?_
      refine x_iconst (pc := 127) hC dX12_many_127 ?_
      refine x_icmp_ge (pc := 128) hC 156 dX12_many_128 (by decide) (by omega) (by omega) (fun b128 => ?_) (fun b128 => ?_)
      · refine x_iload_n (pc := 156) hC dX12_many_156 rfl ?_
        refine x_iret (pc := 157) hC rfl dX12_many_157 ?_
        have hy : y = 5 := by omega
        subst hy
        exact ⟨by unfold mnR; rw [if_neg (by omega), if_neg (by omega), if_neg (by omega), if_pos hw2], rfl, rfl, rfl, rfl, rfl⟩
      · refine x_iload_n (pc := 131) hC dX12_many_131 rfl ?_
        refine x_aload_n (pc := 132) hC dX12_many_132 rfl ?_
        refine x_getO (pc := 133) hC gf_X12_100 dX12_many_133 M.1 (mo_slotSort M).1 ?_
        refine x_iload_n (pc := 136) hC dX12_many_136 rfl ?_
        refine x_iald (pc := 137) hC dX12_many_137 (mo_slotSort M).2.1 (by omega) (by rw [(mo_slotSort M).2.2]; omega) ?_
        refine x_bipush (pc := 138) hC dX12_many_138 (by decide) ?_
        refine x_icmp_ne (pc := 140) hC 147 dX12_many_140 (by decide) (by omega) (by omega) (fun b140 => ?_) (fun b140 => ?_)
        · refine x_iconst (pc := 147) hC dX12_many_147 ?_
          refine x_iadd (pc := 148) hC dX12_many_148 ?_
          refine x_istore_n (pc := 149) hC dX12_many_149 (Nat.le_of_ble_eq_true rfl) ?_
          dsimp only [List.set]
          refine x_iinc (pc := 150) hC dX12_many_150 rfl ?_
          dsimp only [List.set]
          refine x_goto (pc := 153) hC 126 dX12_many_153 (by decide) ?_
          first
          | (have hh := hih (by omega)
             rw [ht b140] at hh
             exact hh)
          | (have hh := hih (by omega)
             rw [hf b140] at hh
             exact hh)
        · refine x_iconst (pc := 143) hC dX12_many_143 ?_
          refine x_goto (pc := 144) hC 148 dX12_many_144 (by decide) ?_
          refine x_iadd (pc := 148) hC dX12_many_148 ?_
          refine x_istore_n (pc := 149) hC dX12_many_149 (Nat.le_of_ble_eq_true rfl) ?_
          dsimp only [List.set]
          refine x_iinc (pc := 150) hC dX12_many_150 rfl ?_
          dsimp only [List.set]
          refine x_goto (pc := 153) hC 126 dX12_many_153 (by decide) ?_
          first
          | (have hh := hih (by omega)
             rw [ht b140] at hh
             exact hh)
          | (have hh := hih (by omega)
             rw [hf b140] at hh
             exact hh)
  refine x_iconst (pc := 0) hC dX12_many_0 ?_
  refine x_istore_n (pc := 1) hC dX12_many_1 (Nat.le_of_ble_eq_true rfl) ?_
  dsimp only [List.set]
  refine x_iload_n (pc := 2) hC dX12_many_2 rfl ?_
  by_cases t3_0 : w = 0
  · refine x_tswIn (pc := 3) hC 32 dX12_many_3 hw (by omega) (by omega) (by rw [t3_0]; rfl) (by decide) ?_
    refine x_aload_n (pc := 32) hC dX12_many_32 rfl ?_
    refine x_getI (pc := 33) hC gf_X12_129 dX12_many_33 M.1 ?_
    refine x_iret (pc := 36) hC rfl dX12_many_36 ?_
    exact ⟨by unfold mnR; rw [if_pos (by omega)], rfl, rfl, rfl, rfl, rfl⟩
  · skip
    by_cases t3_1 : w = 1
    · refine x_tswIn (pc := 3) hC 37 dX12_many_3 hw (by omega) (by omega) (by rw [t3_1]; rfl) (by decide) ?_
      refine x_aload_n (pc := 37) hC dX12_many_37 rfl ?_
      refine x_getI (pc := 38) hC gf_X12_219 dX12_many_38 M.1 ?_
      refine x_iret (pc := 41) hC rfl dX12_many_41 ?_
      exact ⟨by unfold mnR; rw [if_neg (by omega), if_pos (by omega)], rfl, rfl, rfl, rfl, rfl⟩
    · skip
      by_cases t3_2 : w = 2
      · refine x_tswIn (pc := 3) hC 42 dX12_many_3 hw (by omega) (by omega) (by rw [t3_2]; rfl) (by decide) ?_
        refine x_iconst (pc := 42) hC dX12_many_42 ?_
        refine x_istore_n (pc := 43) hC dX12_many_43 (Nat.le_of_ble_eq_true rfl) ?_
        dsimp only [List.set]
        have := l2 (by assumption) _ 0 (Nat.le_refl _) (by omega) (by omega)
        exact this
      · skip
        by_cases t3_3 : w = 3
        · refine x_tswIn (pc := 3) hC 124 dX12_many_3 hw (by omega) (by omega) (by rw [t3_3]; rfl) (by decide) ?_
          refine x_iconst (pc := 124) hC dX12_many_124 ?_
          refine x_istore_n (pc := 125) hC dX12_many_125 (Nat.le_of_ble_eq_true rfl) ?_
          dsimp only [List.set]
          have := l3 (by assumption) _ 0 (Nat.le_refl _) (by omega) (by omega)
          exact this
        · skip
          refine x_tswOut (pc := 3) hC 158 dX12_many_3 (by decide) hw (by omega) ?_
          refine x_bipush (pc := 158) hC dX12_many_158 (by decide) ?_
          refine x_iret (pc := 160) hC rfl dX12_many_160 ?_
          exact ⟨by unfold mnR; rw [if_neg (by omega), if_neg (by omega), if_neg (by omega), if_neg (by omega)], rfl, rfl, rfl, rfl, rfl⟩

