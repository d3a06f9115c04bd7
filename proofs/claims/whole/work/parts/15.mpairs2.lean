set_option maxHeartbeats 4000000 in
set_option maxRecDepth 100000 in
theorem m_pairs {G : ax_G} {T : Nat → Nat} {N : Nat → Int} {I : Nat → Int → Int} {R : Nat → Int → Option Nat} {z o : Nat} (M : axMo T N R o) {a b l na nb : Int} (hl : lnOk I o) (ha : 0 ≤ a ∧ a < 26) (hb : 0 ≤ b ∧ b < 26) (hll : l = 0 ∨ l = 1) (hna : I (o + 6) a = na) (hnb : I (o + 6) b = nb) : axEx G YX12_pairs 2 [vR o, vI a, vI b, vI l] T N I R z (fun r1 I1 => r1 = none ∧ (∀ q, q ≠ o + 8 → q ≠ o + 9 → I1 q = I q) ∧ (∀ j, j < 16 * l ∨ 16 * l + 16 ≤ j → I1 (o + 9) j = I (o + 9) j) ∧ ∀ i, 0 ≤ i → i < na → I1 (o + 9) (16 * l + i) = mtP (rwI I o a) (rwI I o b) na nb i) := by

  refine ax_enter (by decide) (Nat.le_of_ble_eq_true rfl) (ax_cat rfl) (fun f hC => ?_)
  show axX G f 0 0 _ 0 [vR o, vI a, vI b, vI l, vU, vU, vU, vU] [] T N I R z 0 0
  have hla := hl.2 a
  have hlb := hl.2 b
  rw [hna] at hla
  rw [hnb] at hlb
  have outer : ∀ (n : Nat) (i left fr : Int) (J : Nat → Int → Int) (c7 : ax_V), (na - i).toNat ≤ n → 0 ≤ i → i ≤ na → (left, fr) = (mtS (rwI I o a) (rwI I o b) na nb i.toNat) → (∀ q, q ≠ o + 8 → q ≠ o + 9 → J q = I q) → (∀ i j, 0 ≤ i → i ≤ na → 0 ≤ j → j ≤ nb → J (o + 8) (17 * i + j) = lcv (rwI I o a) (rwI I o b) na nb i j) → (∀ j, j < 16 * l ∨ 16 * l + 16 ≤ j → J (o + 9) j = I (o + 9) j) → (∀ i', 0 ≤ i' → i' < i → J (o + 9) (16 * l + i') = mtP (rwI I o a) (rwI I o b) na nb i') → axX G f 0 0 (fun r1 T1 N1 I1 R1 z1 => (r1 = none ∧ (∀ q, q ≠ o + 8 → q ≠ o + 9 → I1 q = I q) ∧ (∀ j, j < 16 * l ∨ 16 * l + 16 ≤ j → I1 (o + 9) j = I (o + 9) j) ∧ ∀ i, 0 ≤ i → i < na → I1 (o + 9) (16 * l + i) = mtP (rwI I o a) (rwI I o b) na nb i) ∧ T1 = T ∧ N1 = N ∧ R1 = R ∧ z1 = z) 20 [vR o, vI a, vI b, vI l, vI left, vI fr, vI i, c7] [] T N J R z 0 0 := by
    intro n
    induction n with
    | zero =>
      intro i left fr J c7 hn h0 h1 hS hJ hst hot hp
      have hsa : J (o + 6) a = na := by rw [hJ (o + 6) (by omega) (by omega)]; exact hna
      refine x_iload (pc := 20) hC dX12_pairs_20 rfl ?_
      refine x_aload_n (pc := 22) hC dX12_pairs_22 rfl ?_
      refine x_getO (pc := 23) hC gf_X12_25 dX12_pairs_23 M.1 (mo_size M).1 ?_
      refine x_iload_n (pc := 26) hC dX12_pairs_26 rfl ?_
      refine x_iald (pc := 27) hC dX12_pairs_27 (mo_size M).2.1 (by omega) (by rw [(mo_size M).2.2]; omega) ?_
      refine x_icmp_ge (pc := 28) hC 149 dX12_pairs_28 (by decide) (by omega) (by omega) (fun b28 => ?_) (fun b28 => ?_)
      · refine x_vret (pc := 149) hC rfl dX12_pairs_149 ?_
        exact ⟨⟨rfl, hJ, hot, fun i' a1 a2 => hp i' a1 (by omega)⟩, rfl, rfl, rfl, rfl⟩
      · omega
    | succ n ih =>
      intro i left fr J c7 hn h0 h1 hS hJ hst hot hp
      have hsa : J (o + 6) a = na := by rw [hJ (o + 6) (by omega) (by omega)]; exact hna
      refine x_iload (pc := 20) hC dX12_pairs_20 rfl ?_
      refine x_aload_n (pc := 22) hC dX12_pairs_22 rfl ?_
      refine x_getO (pc := 23) hC gf_X12_25 dX12_pairs_23 M.1 (mo_size M).1 ?_
      refine x_iload_n (pc := 26) hC dX12_pairs_26 rfl ?_
      refine x_iald (pc := 27) hC dX12_pairs_27 (mo_size M).2.1 (by omega) (by rw [(mo_size M).2.2]; omega) ?_
      refine x_icmp_ge (pc := 28) hC 149 dX12_pairs_28 (by decide) (by omega) (by omega) (fun b28 => ?_) (fun b28 => ?_)
      · refine x_vret (pc := 149) hC rfl dX12_pairs_149 ?_
        exact ⟨⟨rfl, hJ, hot, fun i' a1 a2 => hp i' a1 (by omega)⟩, rfl, rfl, rfl, rfl⟩
      · refine x_aload_n (pc := 31) hC dX12_pairs_31 rfl ?_
        refine x_getO (pc := 32) hC gf_X12_34 dX12_pairs_32 M.1 (mo_pair M).1 ?_
        refine x_bipush (pc := 35) hC dX12_pairs_35 (by decide) ?_
        refine x_iload_n (pc := 37) hC dX12_pairs_37 rfl ?_
        refine x_imul (pc := 38) hC dX12_pairs_38 ?_
        refine x_iload (pc := 39) hC dX12_pairs_39 rfl ?_
        refine x_iadd (pc := 41) hC dX12_pairs_41 ?_
        refine x_bipush (pc := 42) hC dX12_pairs_42 (by decide) ?_
        refine x_iast (pc := 44) hC dX12_pairs_44 (mo_pair M).2.1 (by omega) (by rw [(mo_pair M).2.2]; omega) ?_
        refine x_iload (pc := 45) hC dX12_pairs_45 rfl ?_
        refine x_istore (pc := 47) hC dX12_pairs_47 (Nat.le_of_ble_eq_true rfl) ?_
        dsimp only [List.set]
        have hlf := mtS_l (rwI I o a) (rwI I o b) (na := na) (nb := nb) (by omega) i.toNat
        have hff := mtS_f (rwI I o a) (rwI I o b) (na := na) (nb := nb) (by omega) i.toNat
        rw [← hS] at hlf hff
        dsimp only at hlf hff
        have hmp : mtP (rwI I o a) (rwI I o b) na nb i = fj (fun j => rwI I o a i = rwI I o b j ∧ lcv (rwI I o a) (rwI I o b) na nb (i + 1) (j + 1) + 1 = left) (nb - fr).toNat fr := by
          unfold mtP mtN
          rw [← hS]
        have next : ∀ (left' fr' : Int) (J : Nat → Int → Int) (c7 : ax_V), (left', fr') = (if mtP (rwI I o a) (rwI I o b) na nb i = -9 then (left, fr) else (left - 1, mtP (rwI I o a) (rwI I o b) na nb i + 1)) → (∀ q, q ≠ o + 8 → q ≠ o + 9 → J q = I q) → (∀ i j, 0 ≤ i → i ≤ na → 0 ≤ j → j ≤ nb → J (o + 8) (17 * i + j) = lcv (rwI I o a) (rwI I o b) na nb i j) → (∀ j, j < 16 * l ∨ 16 * l + 16 ≤ j → J (o + 9) j = I (o + 9) j) → (∀ i', 0 ≤ i' → i' < i → J (o + 9) (16 * l + i') = mtP (rwI I o a) (rwI I o b) na nb i') → J (o + 9) (16 * l + i) = mtP (rwI I o a) (rwI I o b) na nb i → axX G f 0 0 (fun r1 T1 N1 I1 R1 z1 => (r1 = none ∧ (∀ q, q ≠ o + 8 → q ≠ o + 9 → I1 q = I q) ∧ (∀ j, j < 16 * l ∨ 16 * l + 16 ≤ j → I1 (o + 9) j = I (o + 9) j) ∧ ∀ i, 0 ≤ i → i < na → I1 (o + 9) (16 * l + i) = mtP (rwI I o a) (rwI I o b) na nb i) ∧ T1 = T ∧ N1 = N ∧ R1 = R ∧ z1 = z) 143 [vR o, vI a, vI b, vI l, vI left', vI fr', vI i, c7] [] T N J R z 0 0 := by
          intro left' fr' J c7 hS' hJ hst hot hp hpi
          refine x_iinc (pc := 143) hC dX12_pairs_143 rfl ?_
          dsimp only [List.set]
          refine x_goto (pc := 146) hC 20 dX12_pairs_146 (by decide) ?_
          refine ih _ _ _ J _ (by omega) (by omega) (by omega) (by rw [mtS_s h0, ← hS]; exact hS') hJ hst hot (fun i' a1 a2 => ?_)
          by_cases hii : i' = i
          · rw [hii]; exact hpi
          · exact hp i' a1 (by omega)
        have inner : ∀ (m : Nat) (j : Int) (J : Nat → Int → Int), (nb - j).toNat ≤ m → fr ≤ j → j ≤ nb → (∀ q, q ≠ o + 8 → q ≠ o + 9 → J q = I q) → (∀ i j, 0 ≤ i → i ≤ na → 0 ≤ j → j ≤ nb → J (o + 8) (17 * i + j) = lcv (rwI I o a) (rwI I o b) na nb i j) → (∀ j, j < 16 * l ∨ 16 * l + 16 ≤ j → J (o + 9) j = I (o + 9) j) → (∀ i', 0 ≤ i' → i' < i → J (o + 9) (16 * l + i') = mtP (rwI I o a) (rwI I o b) na nb i') → J (o + 9) (16 * l + i) = -9 → mtP (rwI I o a) (rwI I o b) na nb i = fj (fun j => rwI I o a i = rwI I o b j ∧ lcv (rwI I o a) (rwI I o b) na nb (i + 1) (j + 1) + 1 = left) (nb - j).toNat j → axX G f 0 0 (fun r1 T1 N1 I1 R1 z1 => (r1 = none ∧ (∀ q, q ≠ o + 8 → q ≠ o + 9 → I1 q = I q) ∧ (∀ j, j < 16 * l ∨ 16 * l + 16 ≤ j → I1 (o + 9) j = I (o + 9) j) ∧ ∀ i, 0 ≤ i → i < na → I1 (o + 9) (16 * l + i) = mtP (rwI I o a) (rwI I o b) na nb i) ∧ T1 = T ∧ N1 = N ∧ R1 = R ∧ z1 = z) 49 [vR o, vI a, vI b, vI l, vI left, vI fr, vI i, vI j] [] T N J R z 0 0 := by
          intro m
          induction m with
          | zero =>
            intro j J hm h2 h3 hJ hst hot hp hpi hfj
            have hsb : J (o + 6) b = nb := by rw [hJ (o + 6) (by omega) (by omega)]; exact hnb
            have ez : (nb - j).toNat = 0 := by omega
            rw [ez] at hfj
            simp only [fj] at hfj
            refine x_iload (pc := 49) hC dX12_pairs_49 rfl ?_
            refine x_aload_n (pc := 51) hC dX12_pairs_51 rfl ?_
            refine x_getO (pc := 52) hC gf_X12_25 dX12_pairs_52 M.1 (mo_size M).1 ?_
            refine x_iload_n (pc := 55) hC dX12_pairs_55 rfl ?_
            refine x_iald (pc := 56) hC dX12_pairs_56 (mo_size M).2.1 (by omega) (by rw [(mo_size M).2.2]; omega) ?_
            refine x_icmp_ge (pc := 57) hC 143 dX12_pairs_57 (by decide) (by omega) (by omega) (fun b57 => ?_) (fun b57 => ?_)
            · exact next left fr J _ (by rw [hfj, if_pos rfl]) hJ hst hot hp (by rw [hfj]; exact hpi)
            · omega
          | succ m ihj =>
            intro j J hm h2 h3 hJ hst hot hp hpi hfj
            have hsb : J (o + 6) b = nb := by rw [hJ (o + 6) (by omega) (by omega)]; exact hnb
            have hlJ : ∀ j, 0 ≤ J (o + 5) j ∧ J (o + 5) j < 100 := by rw [hJ (o + 5) (by omega) (by omega)]; exact hl.1
            refine x_iload (pc := 49) hC dX12_pairs_49 rfl ?_
            refine x_aload_n (pc := 51) hC dX12_pairs_51 rfl ?_
            refine x_getO (pc := 52) hC gf_X12_25 dX12_pairs_52 M.1 (mo_size M).1 ?_
            refine x_iload_n (pc := 55) hC dX12_pairs_55 rfl ?_
            refine x_iald (pc := 56) hC dX12_pairs_56 (mo_size M).2.1 (by omega) (by rw [(mo_size M).2.2]; omega) ?_
            refine x_icmp_ge (pc := 57) hC 143 dX12_pairs_57 (by decide) (by omega) (by omega) (fun b57 => ?_) (fun b57 => ?_)
            · first
              | (have ez0 : (nb - j).toNat = 0 := by omega
                 rw [ez0] at hfj
                 simp only [fj] at hfj
                 exact next left fr J _ (by rw [hfj, if_pos rfl]) hJ hst hot hp (by rw [hfj]; exact hpi))
              | exact absurd hpi (by assumption)
            · refine x_aload_n (pc := 60) hC dX12_pairs_60 rfl ?_
              refine x_getO (pc := 61) hC gf_X12_34 dX12_pairs_61 M.1 (mo_pair M).1 ?_
              refine x_bipush (pc := 64) hC dX12_pairs_64 (by decide) ?_
              refine x_iload_n (pc := 66) hC dX12_pairs_66 rfl ?_
              refine x_imul (pc := 67) hC dX12_pairs_67 ?_
              refine x_iload (pc := 68) hC dX12_pairs_68 rfl ?_
              refine x_iadd (pc := 70) hC dX12_pairs_70 ?_
              refine x_iald (pc := 71) hC dX12_pairs_71 (mo_pair M).2.1 (by omega) (by rw [(mo_pair M).2.2]; omega) ?_
              refine x_bipush (pc := 72) hC dX12_pairs_72 (by decide) ?_
              refine x_icmp_ne (pc := 74) hC 143 dX12_pairs_74 (by decide) (by omega) (by omega) (fun b74 => ?_) (fun b74 => ?_)
              · first
                | (have ez0 : (nb - j).toNat = 0 := by omega
                   rw [ez0] at hfj
                   simp only [fj] at hfj
                   exact next left fr J _ (by rw [hfj, if_pos rfl]) hJ hst hot hp (by rw [hfj]; exact hpi))
                | exact absurd hpi (by assumption)
              · have hj1 : j < nb := by omega
                have ez : (nb - j).toNat = (nb - (j + 1)).toNat + 1 := by omega
                have d3 := hst (i + 1) (j + 1) (by omega) (by omega) (by omega) (by omega)
                have e3 : 17 * (i + 1) + (j + 1) = 17 * (i + 1) + j + 1 := by omega
                rw [e3] at d3
                have r3 := lcv_r (rwI I o a) (rwI I o b) na nb (i + 1) (j + 1) (by omega)
                have eS : (rwI J o a i = rwI J o b j) = (rwI I o a i = rwI I o b j) := by simp only [rwI]; rw [hJ (o + 5) (by omega) (by omega)]
                refine x_aload_n (pc := 77) hC dX12_pairs_77 rfl ?_
                refine x_iload_n (pc := 78) hC dX12_pairs_78 rfl ?_
                refine x_iload (pc := 79) hC dX12_pairs_79 rfl ?_
                refine x_iload_n (pc := 81) hC dX12_pairs_81 rfl ?_
                refine x_iload (pc := 82) hC dX12_pairs_82 rfl ?_
                refine x_mV (pc := 84) hC cv_X12_143 dX12_pairs_84 (m_isSame M hlJ ha (by omega) hb (by omega)) M.1 rfl (by decide) rfl rfl (Nat.le_of_ble_eq_true rfl) ?_
                refine x_ifB_eq (pc := 87) hC 137 dX12_pairs_87 (by decide) (fun b87 => ?_) (fun b87 => ?_)
                · refine x_iinc (pc := 137) hC dX12_pairs_137 rfl ?_
                  dsimp only [List.set]
                  refine x_goto (pc := 140) hC 49 dX12_pairs_140 (by decide) ?_
                  refine ihj (j + 1) J (by omega) (by omega) (by omega) hJ hst hot hp hpi ?_
                  rw [hfj, ez]
                  simp only [fj]
                  rw [if_neg]
                  rintro ⟨q1, q2⟩
                  rw [← eS] at q1
                  first | exact absurd q1 (by assumption) | omega
                · refine x_aload_n (pc := 90) hC dX12_pairs_90 rfl ?_
                  refine x_getO (pc := 91) hC gf_X12_31 dX12_pairs_91 M.1 (mo_still M).1 ?_
                  refine x_bipush (pc := 94) hC dX12_pairs_94 (by decide) ?_
                  refine x_iload (pc := 96) hC dX12_pairs_96 rfl ?_
                  refine x_iconst (pc := 98) hC dX12_pairs_98 ?_
                  refine x_iadd (pc := 99) hC dX12_pairs_99 ?_
                  refine x_imul (pc := 100) hC dX12_pairs_100 ?_
                  refine x_iload (pc := 101) hC dX12_pairs_101 rfl ?_
                  refine x_iadd (pc := 103) hC dX12_pairs_103 ?_
                  refine x_iconst (pc := 104) hC dX12_pairs_104 ?_
                  refine x_iadd (pc := 105) hC dX12_pairs_105 ?_
                  refine x_iald (pc := 106) hC dX12_pairs_106 (mo_still M).2.1 (by omega) (by rw [(mo_still M).2.2]; omega) ?_
                  refine x_iconst (pc := 107) hC dX12_pairs_107 ?_
                  refine x_iadd (pc := 108) hC dX12_pairs_108 ?_
                  refine x_iload (pc := 109) hC dX12_pairs_109 rfl ?_
                  refine x_icmp_ne (pc := 111) hC 137 dX12_pairs_111 (by decide) (by omega) (by omega) (fun b111 => ?_) (fun b111 => ?_)
                  · refine x_iinc (pc := 137) hC dX12_pairs_137 rfl ?_
                    dsimp only [List.set]
                    refine x_goto (pc := 140) hC 49 dX12_pairs_140 (by decide) ?_
                    refine ihj (j + 1) J (by omega) (by omega) (by omega) hJ hst hot hp hpi ?_
                    rw [hfj, ez]
                    simp only [fj]
                    rw [if_neg]
                    rintro ⟨q1, q2⟩
                    rw [← eS] at q1
                    first | exact absurd q1 (by assumption) | omega
                  · have hfd : mtP (rwI I o a) (rwI I o b) na nb i = j := by
                      rw [hfj, ez]
                      simp only [fj]
                      rw [if_pos ⟨by rw [← eS]; assumption, by omega⟩]
                    have hK : ∀ q, q ≠ o + 8 → q ≠ o + 9 → ax_u J (o + 9) (16 * l + i) j q = I q := fun q a1 a2 => by rw [axu_row a2]; exact hJ q a1 a2
                    have hsbK : ax_u J (o + 9) (16 * l + i) j (o + 6) b = nb := by rw [hK (o + 6) (by omega) (by omega)]; exact hnb
                    have hpK : ax_u J (o + 9) (16 * l + i) j (o + 9) (16 * l + i) = j := axu_s
                    have goOn : axX G f 0 0 (fun r1 T1 N1 I1 R1 z1 => (r1 = none ∧ (∀ q, q ≠ o + 8 → q ≠ o + 9 → I1 q = I q) ∧ (∀ j, j < 16 * l ∨ 16 * l + 16 ≤ j → I1 (o + 9) j = I (o + 9) j) ∧ ∀ i, 0 ≤ i → i < na → I1 (o + 9) (16 * l + i) = mtP (rwI I o a) (rwI I o b) na nb i) ∧ T1 = T ∧ N1 = N ∧ R1 = R ∧ z1 = z) 143 [vR o, vI a, vI b, vI l, vI (left + -1), vI (j + 1), vI i, vI (j + 1)] [] T N (ax_u J (o + 9) (16 * l + i) j) R z 0 0 := by
                      refine next _ _ _ _ ?_ hK (fun i j a1 a2 a3 a4 => by rw [axu_a (by omega)]; exact hst i j a1 a2 a3 a4) (fun q hq => by rw [axu_j (by omega)]; exact hot q hq) (fun i' a1 a2 => by rw [axu_j (by omega)]; exact hp i' a1 a2) (by rw [axu_s, hfd])
                      rw [hfd, if_neg (by omega)]
                      rfl
                    refine x_aload_n (pc := 114) hC dX12_pairs_114 rfl ?_
                    refine x_getO (pc := 115) hC gf_X12_34 dX12_pairs_115 M.1 (mo_pair M).1 ?_
                    refine x_bipush (pc := 118) hC dX12_pairs_118 (by decide) ?_
                    refine x_iload_n (pc := 120) hC dX12_pairs_120 rfl ?_
                    refine x_imul (pc := 121) hC dX12_pairs_121 ?_
                    refine x_iload (pc := 122) hC dX12_pairs_122 rfl ?_
                    refine x_iadd (pc := 124) hC dX12_pairs_124 ?_
                    refine x_iload (pc := 125) hC dX12_pairs_125 rfl ?_
                    refine x_iast (pc := 127) hC dX12_pairs_127 (mo_pair M).2.1 (by omega) (by rw [(mo_pair M).2.2]; omega) ?_
                    refine x_iinc (pc := 128) hC dX12_pairs_128 rfl ?_
                    dsimp only [List.set]
                    refine x_iload (pc := 131) hC dX12_pairs_131 rfl ?_
                    refine x_iconst (pc := 133) hC dX12_pairs_133 ?_
                    refine x_iadd (pc := 134) hC dX12_pairs_134 ?_
                    refine x_istore (pc := 135) hC dX12_pairs_135 (Nat.le_of_ble_eq_true rfl) ?_
                    dsimp only [List.set]
                    refine x_iinc (pc := 137) hC dX12_pairs_137 rfl ?_
                    dsimp only [List.set]
                    refine x_goto (pc := 140) hC 49 dX12_pairs_140 (by decide) ?_
                    refine x_iload (pc := 49) hC dX12_pairs_49 rfl ?_
                    refine x_aload_n (pc := 51) hC dX12_pairs_51 rfl ?_
                    refine x_getO (pc := 52) hC gf_X12_25 dX12_pairs_52 M.1 (mo_size M).1 ?_
                    refine x_iload_n (pc := 55) hC dX12_pairs_55 rfl ?_
                    refine x_iald (pc := 56) hC dX12_pairs_56 (mo_size M).2.1 (by omega) (by rw [(mo_size M).2.2]; omega) ?_
                    refine x_icmp_ge (pc := 57) hC 143 dX12_pairs_57 (by decide) (by omega) (by omega) (fun b57 => ?_) (fun b57 => ?_)
                    · exact goOn
                    · refine x_aload_n (pc := 60) hC dX12_pairs_60 rfl ?_
                      refine x_getO (pc := 61) hC gf_X12_34 dX12_pairs_61 M.1 (mo_pair M).1 ?_
                      refine x_bipush (pc := 64) hC dX12_pairs_64 (by decide) ?_
                      refine x_iload_n (pc := 66) hC dX12_pairs_66 rfl ?_
                      refine x_imul (pc := 67) hC dX12_pairs_67 ?_
                      refine x_iload (pc := 68) hC dX12_pairs_68 rfl ?_
                      refine x_iadd (pc := 70) hC dX12_pairs_70 ?_
                      refine x_iald (pc := 71) hC dX12_pairs_71 (mo_pair M).2.1 (by omega) (by rw [(mo_pair M).2.2]; omega) ?_
                      refine x_bipush (pc := 72) hC dX12_pairs_72 (by decide) ?_
                      refine x_icmp_ne (pc := 74) hC 143 dX12_pairs_74 (by decide) (by omega) (by omega) (fun b74 => ?_) (fun b74 => ?_)
                      · exact goOn
                      · exact absurd (by assumption) (by rw [hpK]; omega)
        refine inner (nb - fr).toNat _ _ (Nat.le_refl _) (Int.le_refl _) (by omega) (fun q a1 a2 => by rw [axu_row a2]; exact hJ q a1 a2) (fun i j a1 a2 a3 a4 => by rw [axu_a (by omega)]; exact hst i j a1 a2 a3 a4) (fun q hq => by rw [axu_j (by omega)]; exact hot q hq) (fun i' a1 a2 => by rw [axu_j (by omega)]; exact hp i' a1 a2) axu_s hmp
  refine x_aload_n (pc := 0) hC dX12_pairs_0 rfl ?_
  refine x_iload_n (pc := 1) hC dX12_pairs_1 rfl ?_
  refine x_iload_n (pc := 2) hC dX12_pairs_2 rfl ?_
  refine x_mVx (pc := 3) hC cv_X12_147 dX12_pairs_3 (m_counts M hl ha hb hna hnb) M.1 rfl (by decide) rfl rfl (Nat.le_of_ble_eq_true rfl) ?_
  rintro v J ⟨rfl, hJ, hst⟩
  dsimp only [Option.toList, List.nil_append]
  refine x_aload_n (pc := 6) hC dX12_pairs_6 rfl ?_
  refine x_getO (pc := 7) hC gf_X12_31 dX12_pairs_7 M.1 (mo_still M).1 ?_
  refine x_iconst (pc := 10) hC dX12_pairs_10 ?_
  refine x_iald (pc := 11) hC dX12_pairs_11 (mo_still M).2.1 (by omega) (by rw [(mo_still M).2.2]; omega) ?_
  refine x_istore (pc := 12) hC dX12_pairs_12 (Nat.le_of_ble_eq_true rfl) ?_
  dsimp only [List.set]
  refine x_iconst (pc := 14) hC dX12_pairs_14 ?_
  refine x_istore (pc := 15) hC dX12_pairs_15 (Nat.le_of_ble_eq_true rfl) ?_
  dsimp only [List.set]
  refine x_iconst (pc := 17) hC dX12_pairs_17 ?_
  refine x_istore (pc := 18) hC dX12_pairs_18 (Nat.le_of_ble_eq_true rfl) ?_
  dsimp only [List.set]
  refine outer na.toNat 0 _ 0 J _ (by omega) (by omega) (by omega) ?_ (fun q a1 a2 => hJ q a1) hst (fun j _ => by rw [hJ (o + 9) (by omega)]) (fun i' a1 a2 => by omega)
  rw [mtS_0]
  have := hst 0 0 (by omega) (by omega) (by omega) (by omega)
  rw [show (17 : Int) * 0 + 0 = 0 by rfl] at this
  rw [this]

