/-! THE REFERENCE: matchings -/
abbrev rwI (I : Nat → Int → Int) (o : Nat) (c : Int) : Int → Int := fun i => I (o + 5) (16 * c + i)
/-- every line is a line, every row is short -/
def lnOk (I : Nat → Int → Int) (o : Nat) : Prop := (∀ j, 0 ≤ I (o + 5) j ∧ I (o + 5) j < 100) ∧ ∀ j, 0 ≤ I (o + 6) j ∧ I (o + 6) j ≤ 16

set_option maxHeartbeats 4000000 in
set_option maxRecDepth 100000 in
theorem m_isSame {G : ax_G} {T : Nat → Nat} {N : Nat → Int} {I : Nat → Int → Int} {R : Nat → Int → Option Nat} {z o : Nat} (M : axMo T N R o) {a i b j : Int} (hl : ∀ j, 0 ≤ I (o + 5) j ∧ I (o + 5) j < 100) (ha : 0 ≤ a ∧ a < 26) (hi : 0 ≤ i ∧ i < 16) (hb : 0 ≤ b ∧ b < 26) (hj : 0 ≤ j ∧ j < 16) : axE G YX12_isSame 0 [vR o, vI a, vI i, vI b, vI j] T N I R z (some (vI (bI (rwI I o a i = rwI I o b j)))) I := by
  refine ax_enter (by decide) (Nat.le_of_ble_eq_true rfl) (ax_cat rfl) (fun f hC => ?_)
  show axX G f 0 0 _ 0 [vR o, vI a, vI i, vI b, vI j] [] T N I R z 0 0
  have h1 := hl (16 * a + i)
  have h2 := hl (16 * b + j)
  refine x_aload_n (pc := 0) hC dX12_isSame_0 rfl ?_
  refine x_getO (pc := 1) hC gf_X12_22 dX12_isSame_1 M.1 (mo_line M).1 ?_
  refine x_bipush (pc := 4) hC dX12_isSame_4 (by decide) ?_
  refine x_iload_n (pc := 6) hC dX12_isSame_6 rfl ?_
  refine x_imul (pc := 7) hC dX12_isSame_7 ?_
  refine x_iload_n (pc := 8) hC dX12_isSame_8 rfl ?_
  refine x_iadd (pc := 9) hC dX12_isSame_9 ?_
  refine x_iald (pc := 10) hC dX12_isSame_10 (mo_line M).2.1 (by omega) (by rw [(mo_line M).2.2]; omega) ?_
  refine x_aload_n (pc := 11) hC dX12_isSame_11 rfl ?_
  refine x_getO (pc := 12) hC gf_X12_22 dX12_isSame_12 M.1 (mo_line M).1 ?_
  refine x_bipush (pc := 15) hC dX12_isSame_15 (by decide) ?_
  refine x_iload_n (pc := 17) hC dX12_isSame_17 rfl ?_
  refine x_imul (pc := 18) hC dX12_isSame_18 ?_
  refine x_iload (pc := 19) hC dX12_isSame_19 rfl ?_
  refine x_iadd (pc := 21) hC dX12_isSame_21 ?_
  refine x_iald (pc := 22) hC dX12_isSame_22 (mo_line M).2.1 (by omega) (by rw [(mo_line M).2.2]; omega) ?_
  refine x_icmp_ne (pc := 23) hC 30 dX12_isSame_23 (by decide) (by omega) (by omega) (fun b23 => ?_) (fun b23 => ?_)
  · refine x_iconst (pc := 30) hC dX12_isSame_30 ?_
    refine x_zret (pc := 31) hC rfl dX12_isSame_31 (Or.inl rfl) ?_
    exact ⟨by first | rw [bI_t (by assumption)] | rw [bI_f (by assumption)], rfl, rfl, rfl, rfl, rfl⟩
  · refine x_iconst (pc := 26) hC dX12_isSame_26 ?_
    refine x_goto (pc := 27) hC 31 dX12_isSame_27 (by decide) ?_
    refine x_zret (pc := 31) hC rfl dX12_isSame_31 (Or.inr rfl) ?_
    exact ⟨by first | rw [bI_t (by assumption)] | rw [bI_f (by assumption)], rfl, rfl, rfl, rfl, rfl⟩
set_option maxHeartbeats 4000000 in
set_option maxRecDepth 100000 in
theorem m_counts {G : ax_G} {T : Nat → Nat} {N : Nat → Int} {I : Nat → Int → Int} {R : Nat → Int → Option Nat} {z o : Nat} (M : axMo T N R o) {a b na nb : Int} (hl : lnOk I o) (ha : 0 ≤ a ∧ a < 26) (hb : 0 ≤ b ∧ b < 26) (hna : I (o + 6) a = na) (hnb : I (o + 6) b = nb) : axEx G YX12_counts 1 [vR o, vI a, vI b] T N I R z (fun r J => r = none ∧ (∀ q, q ≠ o + 8 → J q = I q) ∧ ∀ i j, 0 ≤ i → i ≤ na → 0 ≤ j → j ≤ nb → J (o + 8) (17 * i + j) = lcv (rwI I o a) (rwI I o b) na nb i j) := by
  refine ax_enter (by decide) (Nat.le_of_ble_eq_true rfl) (ax_cat rfl) (fun f hC => ?_)
  show axX G f 0 0 _ 0 [vR o, vI a, vI b, vU, vU, vU, vU, vU, vU] [] T N I R z 0 0
  have hla := hl.2 a
  have hlb := hl.2 b
  rw [hna] at hla
  rw [hnb] at hlb
  have outer : ∀ (n : Nat) (i : Int) (J : Nat → Int → Int) (c4 c5 c6 c7 c8 : ax_V), (i + 1).toNat ≤ n → -1 ≤ i → i ≤ na → (∀ q, q ≠ o + 8 → J q = I q) → (∀ i' j', i < i' → i' ≤ na → 0 ≤ j' → j' ≤ nb → J (o + 8) (17 * i' + j') = lcv (rwI I o a) (rwI I o b) na nb i' j') → axX G f 0 0 (fun r1 T1 N1 I1 R1 z1 => (r1 = none ∧ (∀ q, q ≠ o + 8 → I1 q = I q) ∧ ∀ i j, 0 ≤ i → i ≤ na → 0 ≤ j → j ≤ nb → I1 (o + 8) (17 * i + j) = lcv (rwI I o a) (rwI I o b) na nb i j) ∧ T1 = T ∧ N1 = N ∧ R1 = R ∧ z1 = z) 7 [vR o, vI a, vI b, vI i, c4, c5, c6, c7, c8] [] T N J R z 0 0 := by
    intro n
    induction n with
    | zero =>
      intro i J c4 c5 c6 c7 c8 hn h1 h2 hJ hA
      refine x_iload_n (pc := 7) hC dX12_counts_7 rfl ?_
      refine x_if_lt (pc := 8) hC 174 dX12_counts_8 (by decide) (by omega) (fun b8 => ?_) (fun b8 => ?_)
      · refine x_vret (pc := 174) hC rfl dX12_counts_174 ?_
        exact ⟨⟨rfl, hJ, fun i j a1 a2 a3 a4 => hA i j (by omega) a2 a3 a4⟩, rfl, rfl, rfl, rfl⟩
      · omega
    | succ n ih =>
      intro i J c4 c5 c6 c7 c8 hn h1 h2 hJ hA
      refine x_iload_n (pc := 7) hC dX12_counts_7 rfl ?_
      refine x_if_lt (pc := 8) hC 174 dX12_counts_8 (by decide) (by omega) (fun b8 => ?_) (fun b8 => ?_)
      · refine x_vret (pc := 174) hC rfl dX12_counts_174 ?_
        exact ⟨⟨rfl, hJ, fun i j a1 a2 a3 a4 => hA i j (by omega) a2 a3 a4⟩, rfl, rfl, rfl, rfl⟩
      · have inner : ∀ (m : Nat) (j : Int) (J : Nat → Int → Int) (c5 c6 c7 c8 : ax_V), (j + 1).toNat ≤ m → -1 ≤ j ∧ j ≤ nb → (∀ q, q ≠ o + 8 → J q = I q) → (∀ i' j', i < i' → i' ≤ na → 0 ≤ j' → j' ≤ nb → J (o + 8) (17 * i' + j') = lcv (rwI I o a) (rwI I o b) na nb i' j') → (∀ j', j < j' → j' ≤ nb → J (o + 8) (17 * i + j') = lcv (rwI I o a) (rwI I o b) na nb i j') → axX G f 0 0 (fun r1 T1 N1 I1 R1 z1 => (r1 = none ∧ (∀ q, q ≠ o + 8 → I1 q = I q) ∧ ∀ i j, 0 ≤ i → i ≤ na → 0 ≤ j → j ≤ nb → I1 (o + 8) (17 * i + j) = lcv (rwI I o a) (rwI I o b) na nb i j) ∧ T1 = T ∧ N1 = N ∧ R1 = R ∧ z1 = z) 19 [vR o, vI a, vI b, vI i, vI j, c5, c6, c7, c8] [] T N J R z 0 0 := by
          intro m
          induction m with
          | zero =>
            intro j J c5 c6 c7 c8 hm hj hJ hA hB
            refine x_iload (pc := 19) hC dX12_counts_19 rfl ?_
            refine x_if_lt (pc := 21) hC 168 dX12_counts_21 (by decide) (by omega) (fun b21 => ?_) (fun b21 => ?_)
            · refine x_iinc (pc := 168) hC dX12_counts_168 rfl ?_
              dsimp only [List.set]
              refine x_goto (pc := 171) hC 7 dX12_counts_171 (by decide) ?_
              refine ih _ _ _ _ _ _ _ (by omega) (by omega) (by omega) hJ (fun i' j' a1 a2 a3 a4 => ?_)
              by_cases hii : i' = i
              · rw [hii]; exact hB j' (by omega) a4
              · exact hA i' j' (by omega) a2 a3 a4
            · omega
          | succ m ihj =>
            intro j J c5 c6 c7 c8 hm hj hJ hA hB
            have hsa : J (o + 6) a = na := by rw [hJ (o + 6) (by omega)]; exact hna
            have hsb : J (o + 6) b = nb := by rw [hJ (o + 6) (by omega)]; exact hnb
            have hlJ : ∀ j, 0 ≤ J (o + 5) j ∧ J (o + 5) j < 100 := by rw [hJ (o + 5) (by omega)]; exact hl.1
            refine x_iload (pc := 19) hC dX12_counts_19 rfl ?_
            refine x_if_lt (pc := 21) hC 168 dX12_counts_21 (by decide) (by omega) (fun b21 => ?_) (fun b21 => ?_)
            · refine x_iinc (pc := 168) hC dX12_counts_168 rfl ?_
              dsimp only [List.set]
              refine x_goto (pc := 171) hC 7 dX12_counts_171 (by decide) ?_
              refine ih _ _ _ _ _ _ _ (by omega) (by omega) (by omega) hJ (fun i' j' a1 a2 a3 a4 => ?_)
              by_cases hii : i' = i
              · rw [hii]; exact hB j' (by omega) a4
              · exact hA i' j' (by omega) a2 a3 a4
            · have fin : ∀ (v : Int) (c6 c7 c8 : ax_V), v = lcv (rwI I o a) (rwI I o b) na nb i j → axX G f 0 0 (fun r1 T1 N1 I1 R1 z1 => (r1 = none ∧ (∀ q, q ≠ o + 8 → I1 q = I q) ∧ ∀ i j, 0 ≤ i → i ≤ na → 0 ≤ j → j ≤ nb → I1 (o + 8) (17 * i + j) = lcv (rwI I o a) (rwI I o b) na nb i j) ∧ T1 = T ∧ N1 = N ∧ R1 = R ∧ z1 = z) 148 [vR o, vI a, vI b, vI i, vI j, vI v, c6, c7, c8] [] T N J R z 0 0 := by
                intro v c6 c7 c8 hv
                refine x_aload_n (pc := 148) hC dX12_counts_148 rfl ?_
                refine x_getO (pc := 149) hC gf_X12_31 dX12_counts_149 M.1 (mo_still M).1 ?_
                refine x_bipush (pc := 152) hC dX12_counts_152 (by decide) ?_
                refine x_iload_n (pc := 154) hC dX12_counts_154 rfl ?_
                refine x_imul (pc := 155) hC dX12_counts_155 ?_
                refine x_iload (pc := 156) hC dX12_counts_156 rfl ?_
                refine x_iadd (pc := 158) hC dX12_counts_158 ?_
                refine x_iload (pc := 159) hC dX12_counts_159 rfl ?_
                refine x_iast (pc := 161) hC dX12_counts_161 (mo_still M).2.1 (by omega) (by rw [(mo_still M).2.2]; omega) ?_
                refine x_iinc (pc := 162) hC dX12_counts_162 rfl ?_
                dsimp only [List.set]
                refine x_goto (pc := 165) hC 19 dX12_counts_165 (by decide) ?_
                refine ihj _ _ _ _ _ _ (by omega) (by omega) (fun q hq => by rw [axu_row hq]; exact hJ q hq) (fun i' j' h1 h2 h3 h4 => ?_) (fun j' h1 h2 => ?_)
                · rw [axu_j (by omega)]; exact hA i' j' h1 h2 h3 h4
                · by_cases hjj : j' = j
                  · rw [hjj, axu_s]; exact hv
                  · rw [axu_j (by omega)]; exact hB j' (by omega) h2
              by_cases hin : i < na ∧ j < nb
              · have d1 := hA (i + 1) j (by omega) (by omega) (by omega) (by omega)
                have d2 := hB (j + 1) (by omega) (by omega)
                have d3 := hA (i + 1) (j + 1) (by omega) (by omega) (by omega) (by omega)
                have e2 : 17 * i + (j + 1) = 17 * i + j + 1 := by omega
                have e3 : 17 * (i + 1) + (j + 1) = 17 * (i + 1) + j + 1 := by omega
                rw [e2] at d2
                rw [e3] at d3
                have r1 := lcv_r (rwI I o a) (rwI I o b) na nb (i + 1) j (by omega)
                have r2 := lcv_r (rwI I o a) (rwI I o b) na nb i (j + 1) (by omega)
                have r3 := lcv_r (rwI I o a) (rwI I o b) na nb (i + 1) (j + 1) (by omega)
                have hmx := lcv_max (a := rwI I o a) (b := rwI I o b) hin.1 hin.2
                have eS : (rwI J o a i = rwI J o b j) = (rwI I o a i = rwI I o b j) := by simp only [rwI]; rw [hJ (o + 5) (by omega)]
                refine x_iconst (pc := 24) hC dX12_counts_24 ?_
                refine x_istore (pc := 25) hC dX12_counts_25 (Nat.le_of_ble_eq_true rfl) ?_
                dsimp only [List.set]
                refine x_iload_n (pc := 27) hC dX12_counts_27 rfl ?_
                refine x_aload_n (pc := 28) hC dX12_counts_28 rfl ?_
                refine x_getO (pc := 29) hC gf_X12_25 dX12_counts_29 M.1 (mo_size M).1 ?_
                refine x_iload_n (pc := 32) hC dX12_counts_32 rfl ?_
                refine x_iald (pc := 33) hC dX12_counts_33 (mo_size M).2.1 (by omega) (by rw [(mo_size M).2.2]; omega) ?_
                refine x_icmp_ge (pc := 34) hC 148 dX12_counts_34 (by decide) (by omega) (by omega) (fun b34 => absurd b34 (by omega)) (fun _ => ?_)
                refine x_iload (pc := 37) hC dX12_counts_37 rfl ?_
                refine x_aload_n (pc := 39) hC dX12_counts_39 rfl ?_
                refine x_getO (pc := 40) hC gf_X12_25 dX12_counts_40 M.1 (mo_size M).1 ?_
                refine x_iload_n (pc := 43) hC dX12_counts_43 rfl ?_
                refine x_iald (pc := 44) hC dX12_counts_44 (mo_size M).2.1 (by omega) (by rw [(mo_size M).2.2]; omega) ?_
                refine x_icmp_ge (pc := 45) hC 148 dX12_counts_45 (by decide) (by omega) (by omega) (fun b45 => absurd b45 (by omega)) (fun _ => ?_)
                
                refine x_aload_n (pc := 48) hC dX12_counts_48 rfl ?_
                refine x_getO (pc := 49) hC gf_X12_31 dX12_counts_49 M.1 (mo_still M).1 ?_
                refine x_bipush (pc := 52) hC dX12_counts_52 (by decide) ?_
                refine x_iload_n (pc := 54) hC dX12_counts_54 rfl ?_
                refine x_iconst (pc := 55) hC dX12_counts_55 ?_
                refine x_iadd (pc := 56) hC dX12_counts_56 ?_
                refine x_imul (pc := 57) hC dX12_counts_57 ?_
                refine x_iload (pc := 58) hC dX12_counts_58 rfl ?_
                refine x_iadd (pc := 60) hC dX12_counts_60 ?_
                refine x_iald (pc := 61) hC dX12_counts_61 (mo_still M).2.1 (by omega) (by rw [(mo_still M).2.2]; omega) ?_
                refine x_istore (pc := 62) hC dX12_counts_62 (Nat.le_of_ble_eq_true rfl) ?_
                dsimp only [List.set]
                refine x_aload_n (pc := 64) hC dX12_counts_64 rfl ?_
                refine x_getO (pc := 65) hC gf_X12_31 dX12_counts_65 M.1 (mo_still M).1 ?_
                refine x_bipush (pc := 68) hC dX12_counts_68 (by decide) ?_
                refine x_iload_n (pc := 70) hC dX12_counts_70 rfl ?_
                refine x_imul (pc := 71) hC dX12_counts_71 ?_
                refine x_iload (pc := 72) hC dX12_counts_72 rfl ?_
                refine x_iadd (pc := 74) hC dX12_counts_74 ?_
                refine x_iconst (pc := 75) hC dX12_counts_75 ?_
                refine x_iadd (pc := 76) hC dX12_counts_76 ?_
                refine x_iald (pc := 77) hC dX12_counts_77 (mo_still M).2.1 (by omega) (by rw [(mo_still M).2.2]; omega) ?_
                refine x_istore (pc := 78) hC dX12_counts_78 (Nat.le_of_ble_eq_true rfl) ?_
                dsimp only [List.set]
                refine x_iload (pc := 80) hC dX12_counts_80 rfl ?_
                refine x_iload (pc := 82) hC dX12_counts_82 rfl ?_
                refine x_icmp_le (pc := 84) hC 92 dX12_counts_84 (by decide) (by omega) (by omega) (fun b84 => ?_) (fun b84 => ?_)
                · refine x_iload (pc := 92) hC dX12_counts_92 rfl ?_
                  refine x_istore (pc := 94) hC dX12_counts_94 (Nat.le_of_ble_eq_true rfl) ?_
                  dsimp only [List.set]
                  have hi16 : 0 ≤ i ∧ i < 16 := by omega
                  have hj16 : 0 ≤ j ∧ j < 16 := by omega
                  refine x_aload_n (pc := 96) hC dX12_counts_96 rfl ?_
                  refine x_iload_n (pc := 97) hC dX12_counts_97 rfl ?_
                  refine x_iload_n (pc := 98) hC dX12_counts_98 rfl ?_
                  refine x_iload_n (pc := 99) hC dX12_counts_99 rfl ?_
                  refine x_iload (pc := 100) hC dX12_counts_100 rfl ?_
                  refine x_mV (pc := 102) hC cv_X12_143 dX12_counts_102 (m_isSame M hlJ ha hi16 hb hj16) M.1 rfl (by decide) rfl rfl (Nat.le_of_ble_eq_true rfl) ?_
                  refine x_ifB_eq (pc := 105) hC 129 dX12_counts_105 (by decide) (fun b105 => ?_) (fun b105 => ?_)
                  · refine x_iconst (pc := 129) hC dX12_counts_129 ?_
                    refine x_istore (pc := 130) hC dX12_counts_130 (Nat.le_of_ble_eq_true rfl) ?_
                    dsimp only [List.set]
                    refine x_iload (pc := 132) hC dX12_counts_132 rfl ?_
                    refine x_iload (pc := 134) hC dX12_counts_134 rfl ?_
                    refine x_icmp_le (pc := 136) hC 144 dX12_counts_136 (by decide) (by omega) (by omega) (fun b136 => ?_) (fun b136 => ?_)
                    · refine x_iload (pc := 144) hC dX12_counts_144 rfl ?_
                      refine x_istore (pc := 146) hC dX12_counts_146 (Nat.le_of_ble_eq_true rfl) ?_
                      dsimp only [List.set]
                      refine fin _ _ _ _ ?_
                      rw [hmx]
                      first | rw [if_pos (show rwI I o a i = rwI I o b j by rw [← eS]; assumption)] | rw [if_neg (show ¬ rwI I o a i = rwI I o b j by rw [← eS]; assumption)]
                      omega
                    · refine x_iload (pc := 139) hC dX12_counts_139 rfl ?_
                      refine x_goto (pc := 141) hC 146 dX12_counts_141 (by decide) ?_
                      refine x_istore (pc := 146) hC dX12_counts_146 (Nat.le_of_ble_eq_true rfl) ?_
                      dsimp only [List.set]
                      refine fin _ _ _ _ ?_
                      rw [hmx]
                      first | rw [if_pos (show rwI I o a i = rwI I o b j by rw [← eS]; assumption)] | rw [if_neg (show ¬ rwI I o a i = rwI I o b j by rw [← eS]; assumption)]
                      omega
                  · refine x_aload_n (pc := 108) hC dX12_counts_108 rfl ?_
                    refine x_getO (pc := 109) hC gf_X12_31 dX12_counts_109 M.1 (mo_still M).1 ?_
                    refine x_bipush (pc := 112) hC dX12_counts_112 (by decide) ?_
                    refine x_iload_n (pc := 114) hC dX12_counts_114 rfl ?_
                    refine x_iconst (pc := 115) hC dX12_counts_115 ?_
                    refine x_iadd (pc := 116) hC dX12_counts_116 ?_
                    refine x_imul (pc := 117) hC dX12_counts_117 ?_
                    refine x_iload (pc := 118) hC dX12_counts_118 rfl ?_
                    refine x_iadd (pc := 120) hC dX12_counts_120 ?_
                    refine x_iconst (pc := 121) hC dX12_counts_121 ?_
                    refine x_iadd (pc := 122) hC dX12_counts_122 ?_
                    refine x_iald (pc := 123) hC dX12_counts_123 (mo_still M).2.1 (by omega) (by rw [(mo_still M).2.2]; omega) ?_
                    refine x_iconst (pc := 124) hC dX12_counts_124 ?_
                    refine x_iadd (pc := 125) hC dX12_counts_125 ?_
                    refine x_goto (pc := 126) hC 130 dX12_counts_126 (by decide) ?_
                    refine x_istore (pc := 130) hC dX12_counts_130 (Nat.le_of_ble_eq_true rfl) ?_
                    dsimp only [List.set]
                    refine x_iload (pc := 132) hC dX12_counts_132 rfl ?_
                    refine x_iload (pc := 134) hC dX12_counts_134 rfl ?_
                    refine x_icmp_le (pc := 136) hC 144 dX12_counts_136 (by decide) (by omega) (by omega) (fun b136 => ?_) (fun b136 => ?_)
                    · refine x_iload (pc := 144) hC dX12_counts_144 rfl ?_
                      refine x_istore (pc := 146) hC dX12_counts_146 (Nat.le_of_ble_eq_true rfl) ?_
                      dsimp only [List.set]
                      refine fin _ _ _ _ ?_
                      rw [hmx]
                      first | rw [if_pos (show rwI I o a i = rwI I o b j by rw [← eS]; assumption)] | rw [if_neg (show ¬ rwI I o a i = rwI I o b j by rw [← eS]; assumption)]
                      omega
                    · refine x_iload (pc := 139) hC dX12_counts_139 rfl ?_
                      refine x_goto (pc := 141) hC 146 dX12_counts_141 (by decide) ?_
                      refine x_istore (pc := 146) hC dX12_counts_146 (Nat.le_of_ble_eq_true rfl) ?_
                      dsimp only [List.set]
                      refine fin _ _ _ _ ?_
                      rw [hmx]
                      first | rw [if_pos (show rwI I o a i = rwI I o b j by rw [← eS]; assumption)] | rw [if_neg (show ¬ rwI I o a i = rwI I o b j by rw [← eS]; assumption)]
                      omega
                · refine x_iload (pc := 87) hC dX12_counts_87 rfl ?_
                  refine x_goto (pc := 89) hC 94 dX12_counts_89 (by decide) ?_
                  refine x_istore (pc := 94) hC dX12_counts_94 (Nat.le_of_ble_eq_true rfl) ?_
                  dsimp only [List.set]
                  have hi16 : 0 ≤ i ∧ i < 16 := by omega
                  have hj16 : 0 ≤ j ∧ j < 16 := by omega
                  refine x_aload_n (pc := 96) hC dX12_counts_96 rfl ?_
                  refine x_iload_n (pc := 97) hC dX12_counts_97 rfl ?_
                  refine x_iload_n (pc := 98) hC dX12_counts_98 rfl ?_
                  refine x_iload_n (pc := 99) hC dX12_counts_99 rfl ?_
                  refine x_iload (pc := 100) hC dX12_counts_100 rfl ?_
                  refine x_mV (pc := 102) hC cv_X12_143 dX12_counts_102 (m_isSame M hlJ ha hi16 hb hj16) M.1 rfl (by decide) rfl rfl (Nat.le_of_ble_eq_true rfl) ?_
                  refine x_ifB_eq (pc := 105) hC 129 dX12_counts_105 (by decide) (fun b105 => ?_) (fun b105 => ?_)
                  · refine x_iconst (pc := 129) hC dX12_counts_129 ?_
                    refine x_istore (pc := 130) hC dX12_counts_130 (Nat.le_of_ble_eq_true rfl) ?_
                    dsimp only [List.set]
                    refine x_iload (pc := 132) hC dX12_counts_132 rfl ?_
                    refine x_iload (pc := 134) hC dX12_counts_134 rfl ?_
                    refine x_icmp_le (pc := 136) hC 144 dX12_counts_136 (by decide) (by omega) (by omega) (fun b136 => ?_) (fun b136 => ?_)
                    · refine x_iload (pc := 144) hC dX12_counts_144 rfl ?_
                      refine x_istore (pc := 146) hC dX12_counts_146 (Nat.le_of_ble_eq_true rfl) ?_
                      dsimp only [List.set]
                      refine fin _ _ _ _ ?_
                      rw [hmx]
                      first | rw [if_pos (show rwI I o a i = rwI I o b j by rw [← eS]; assumption)] | rw [if_neg (show ¬ rwI I o a i = rwI I o b j by rw [← eS]; assumption)]
                      omega
                    · refine x_iload (pc := 139) hC dX12_counts_139 rfl ?_
                      refine x_goto (pc := 141) hC 146 dX12_counts_141 (by decide) ?_
                      refine x_istore (pc := 146) hC dX12_counts_146 (Nat.le_of_ble_eq_true rfl) ?_
                      dsimp only [List.set]
                      refine fin _ _ _ _ ?_
                      rw [hmx]
                      first | rw [if_pos (show rwI I o a i = rwI I o b j by rw [← eS]; assumption)] | rw [if_neg (show ¬ rwI I o a i = rwI I o b j by rw [← eS]; assumption)]
                      omega
                  · refine x_aload_n (pc := 108) hC dX12_counts_108 rfl ?_
                    refine x_getO (pc := 109) hC gf_X12_31 dX12_counts_109 M.1 (mo_still M).1 ?_
                    refine x_bipush (pc := 112) hC dX12_counts_112 (by decide) ?_
                    refine x_iload_n (pc := 114) hC dX12_counts_114 rfl ?_
                    refine x_iconst (pc := 115) hC dX12_counts_115 ?_
                    refine x_iadd (pc := 116) hC dX12_counts_116 ?_
                    refine x_imul (pc := 117) hC dX12_counts_117 ?_
                    refine x_iload (pc := 118) hC dX12_counts_118 rfl ?_
                    refine x_iadd (pc := 120) hC dX12_counts_120 ?_
                    refine x_iconst (pc := 121) hC dX12_counts_121 ?_
                    refine x_iadd (pc := 122) hC dX12_counts_122 ?_
                    refine x_iald (pc := 123) hC dX12_counts_123 (mo_still M).2.1 (by omega) (by rw [(mo_still M).2.2]; omega) ?_
                    refine x_iconst (pc := 124) hC dX12_counts_124 ?_
                    refine x_iadd (pc := 125) hC dX12_counts_125 ?_
                    refine x_goto (pc := 126) hC 130 dX12_counts_126 (by decide) ?_
                    refine x_istore (pc := 130) hC dX12_counts_130 (Nat.le_of_ble_eq_true rfl) ?_
                    dsimp only [List.set]
                    refine x_iload (pc := 132) hC dX12_counts_132 rfl ?_
                    refine x_iload (pc := 134) hC dX12_counts_134 rfl ?_
                    refine x_icmp_le (pc := 136) hC 144 dX12_counts_136 (by decide) (by omega) (by omega) (fun b136 => ?_) (fun b136 => ?_)
                    · refine x_iload (pc := 144) hC dX12_counts_144 rfl ?_
                      refine x_istore (pc := 146) hC dX12_counts_146 (Nat.le_of_ble_eq_true rfl) ?_
                      dsimp only [List.set]
                      refine fin _ _ _ _ ?_
                      rw [hmx]
                      first | rw [if_pos (show rwI I o a i = rwI I o b j by rw [← eS]; assumption)] | rw [if_neg (show ¬ rwI I o a i = rwI I o b j by rw [← eS]; assumption)]
                      omega
                    · refine x_iload (pc := 139) hC dX12_counts_139 rfl ?_
                      refine x_goto (pc := 141) hC 146 dX12_counts_141 (by decide) ?_
                      refine x_istore (pc := 146) hC dX12_counts_146 (Nat.le_of_ble_eq_true rfl) ?_
                      dsimp only [List.set]
                      refine fin _ _ _ _ ?_
                      rw [hmx]
                      first | rw [if_pos (show rwI I o a i = rwI I o b j by rw [← eS]; assumption)] | rw [if_neg (show ¬ rwI I o a i = rwI I o b j by rw [← eS]; assumption)]
                      omega
              · have e0 : (0 : Int) = lcv (rwI I o a) (rwI I o b) na nb i j := by
                  by_cases hia : i < na
                  · rw [lcv_b (by omega)]
                  · rw [lcv_a (by omega)]
                refine x_iconst (pc := 24) hC dX12_counts_24 ?_
                refine x_istore (pc := 25) hC dX12_counts_25 (Nat.le_of_ble_eq_true rfl) ?_
                dsimp only [List.set]
                refine x_iload_n (pc := 27) hC dX12_counts_27 rfl ?_
                refine x_aload_n (pc := 28) hC dX12_counts_28 rfl ?_
                refine x_getO (pc := 29) hC gf_X12_25 dX12_counts_29 M.1 (mo_size M).1 ?_
                refine x_iload_n (pc := 32) hC dX12_counts_32 rfl ?_
                refine x_iald (pc := 33) hC dX12_counts_33 (mo_size M).2.1 (by omega) (by rw [(mo_size M).2.2]; omega) ?_
                refine x_icmp_ge (pc := 34) hC 148 dX12_counts_34 (by decide) (by omega) (by omega) (fun b34 => ?_) (fun b34 => ?_)
                · exact fin _ _ _ _ e0
                · refine x_iload (pc := 37) hC dX12_counts_37 rfl ?_
                  refine x_aload_n (pc := 39) hC dX12_counts_39 rfl ?_
                  refine x_getO (pc := 40) hC gf_X12_25 dX12_counts_40 M.1 (mo_size M).1 ?_
                  refine x_iload_n (pc := 43) hC dX12_counts_43 rfl ?_
                  refine x_iald (pc := 44) hC dX12_counts_44 (mo_size M).2.1 (by omega) (by rw [(mo_size M).2.2]; omega) ?_
                  refine x_icmp_ge (pc := 45) hC 148 dX12_counts_45 (by decide) (by omega) (by omega) (fun b45 => ?_) (fun b45 => ?_)
                  · exact fin _ _ _ _ e0
                  · exact absurd ⟨by omega, by omega⟩ hin
        have hsb : J (o + 6) b = nb := by rw [hJ (o + 6) (by omega)]; exact hnb
        refine x_aload_n (pc := 11) hC dX12_counts_11 rfl ?_
        refine x_getO (pc := 12) hC gf_X12_25 dX12_counts_12 M.1 (mo_size M).1 ?_
        refine x_iload_n (pc := 15) hC dX12_counts_15 rfl ?_
        refine x_iald (pc := 16) hC dX12_counts_16 (mo_size M).2.1 (by omega) (by rw [(mo_size M).2.2]; omega) ?_
        refine x_istore (pc := 17) hC dX12_counts_17 (Nat.le_of_ble_eq_true rfl) ?_
        dsimp only [List.set]
        refine inner (nb + 1).toNat _ J _ _ _ _ (by omega) ⟨by omega, by omega⟩ hJ hA (fun j' a1 a2 => by omega)
  refine x_aload_n (pc := 0) hC dX12_counts_0 rfl ?_
  refine x_getO (pc := 1) hC gf_X12_25 dX12_counts_1 M.1 (mo_size M).1 ?_
  refine x_iload_n (pc := 4) hC dX12_counts_4 rfl ?_
  refine x_iald (pc := 5) hC dX12_counts_5 (mo_size M).2.1 (by omega) (by rw [(mo_size M).2.2]; omega) ?_
  refine x_istore_n (pc := 6) hC dX12_counts_6 (Nat.le_of_ble_eq_true rfl) ?_
  dsimp only [List.set]
  exact outer (na + 1).toNat _ I _ _ _ _ _ (by omega) (by omega) (by omega) (fun q _ => rfl) (fun i' j' a1 a2 => by omega)
