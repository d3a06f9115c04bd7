/-! THE REFERENCE: forget, keeps -/
/-- resolutions from k on drawn up: how far each of the four rows has come -/
def fgF (B I : Nat → Int → Int) (o : Nat) (k n1 n2 n3 n4 : Int) : Nat → Int → Int := ax_f (ax_f (ax_f (ax_f B (o + 21) k n1 (fun j => I (o + 21) (j + 1))) (o + 23) k n2 (fun j => I (o + 23) (j + 1))) (o + 20) (51 * k) n3 (fun j => I (o + 20) (j + 51))) (o + 22) (6 * k) n4 (fun j => I (o + 22) (j + 6))
theorem fg_0 {B I : Nat → Int → Int} {o : Nat} {k : Int} : fgF B I o k 0 0 0 0 = B := by unfold fgF; rw [axf_0, axf_0, axf_0, axf_0]
theorem fg_1 {B I : Nat → Int → Int} {o : Nat} {k n1 n2 n3 n4 j v : Int} (h : 0 ≤ n1) (hj : j = k + n1) (hv : v = I (o + 21) (j + 1)) : ax_u (fgF B I o k n1 n2 n3 n4) (o + 21) j v = fgF B I o k (n1 + 1) n2 n3 n4 := by
  unfold fgF
  rw [axf_uc (by omega), axf_uc (by omega), axf_uc (by omega), axf_step h hj hv]
theorem fg_2 {B I : Nat → Int → Int} {o : Nat} {k n1 n2 n3 n4 j v : Int} (h : 0 ≤ n2) (hj : j = k + n2) (hv : v = I (o + 23) (j + 1)) : ax_u (fgF B I o k n1 n2 n3 n4) (o + 23) j v = fgF B I o k n1 (n2 + 1) n3 n4 := by
  unfold fgF
  rw [axf_uc (by omega), axf_uc (by omega), axf_step h hj hv]
theorem fg_3 {B I : Nat → Int → Int} {o : Nat} {k n1 n2 n3 n4 j v : Int} (h : 0 ≤ n3) (hj : j = 51 * k + n3) (hv : v = I (o + 20) (j + 51)) : ax_u (fgF B I o k n1 n2 n3 n4) (o + 20) j v = fgF B I o k n1 n2 (n3 + 1) n4 := by
  unfold fgF
  rw [axf_uc (by omega), axf_step h hj hv]
theorem fg_4 {B I : Nat → Int → Int} {o : Nat} {k n1 n2 n3 n4 j v : Int} (h : 0 ≤ n4) (hj : j = 6 * k + n4) (hv : v = I (o + 22) (j + 6)) : ax_u (fgF B I o k n1 n2 n3 n4) (o + 22) j v = fgF B I o k n1 n2 n3 (n4 + 1) := by
  unfold fgF
  rw [axf_step h hj hv]
theorem fg_r1 {B I : Nat → Int → Int} {o : Nat} {k n1 n2 n3 n4 j : Int} (h : k + n1 ≤ j) : fgF B I o k n1 n2 n3 n4 (o + 21) j = B (o + 21) j := by
  unfold fgF
  rw [axf_a (by omega), axf_a (by omega), axf_a (by omega), axf_out (Or.inr h)]
theorem fg_r2 {B I : Nat → Int → Int} {o : Nat} {k n1 n2 n3 n4 j : Int} (h : k + n2 ≤ j) : fgF B I o k n1 n2 n3 n4 (o + 23) j = B (o + 23) j := by
  unfold fgF
  rw [axf_a (by omega), axf_a (by omega), axf_out (Or.inr h), axf_a (by omega)]
theorem fg_r3 {B I : Nat → Int → Int} {o : Nat} {k n1 n2 n3 n4 j : Int} (h : 51 * k + n3 ≤ j) : fgF B I o k n1 n2 n3 n4 (o + 20) j = B (o + 20) j := by
  unfold fgF
  rw [axf_a (by omega), axf_out (Or.inr h), axf_a (by omega), axf_a (by omega)]
theorem fg_r4 {B I : Nat → Int → Int} {o : Nat} {k n1 n2 n3 n4 j : Int} (h : 6 * k + n4 ≤ j) : fgF B I o k n1 n2 n3 n4 (o + 22) j = B (o + 22) j := by
  unfold fgF
  rw [axf_out (Or.inr h), axf_a (by omega), axf_a (by omega), axf_a (by omega)]
theorem fg_o {B I : Nat → Int → Int} {o q : Nat} {k n1 n2 n3 n4 : Int} (h : q < o + 20 ∨ o + 23 < q) : fgF B I o k n1 n2 n3 n4 q = B q := by
  unfold fgF
  rw [axf_row (by omega), axf_row (by omega), axf_row (by omega), axf_row (by omega)]
def fg (I : Nat → Int → Int) (o : Nat) (k : Int) : Int × (Nat → Int → Int) := if 0 ≤ k ∧ k < I o 30 then (I o 30 - 1, fgF (ax_u I o 30 (I o 30 - 1)) I o k (I o 30 - 1 - k) (I o 30 - 1 - k) (51 * (I o 30 - 1 - k)) (6 * (I o 30 - 1 - k))) else (-1, I)

set_option maxHeartbeats 4000000 in
set_option maxRecDepth 100000 in
theorem m_forget {G : ax_G} {T : Nat → Nat} {N : Nat → Int} {I : Nat → Int → Int} {R : Nat → Int → Option Nat} {z o : Nat} (M : axMo T N R o) {k : Int} (hr : 0 ≤ (I o 30) ∧ (I o 30) ≤ 8) (hk : ax_r k) : axE G YX12_forget 1 [vR o, vI k] T N I R z (some (vI (fg I o k).1)) (fg I o k).2 := by

  refine ax_enter (by decide) (Nat.le_of_ble_eq_true rfl) (ax_cat rfl) (fun f hC => ?_)
  show axX G f 0 0 _ 0 [vR o, vI k, vU, vU] [] T N I R z 0 0
  have b30 : ∀ n1 n2 n3 n4, (fgF (ax_u I o 30 (I o 30 - 1)) I o k n1 n2 n3 n4) o 30 = I o 30 - 1 := fun n1 n2 n3 n4 => by rw [fg_o (by omega), axu_s]
  have b21 : ∀ j, (ax_u I o 30 (I o 30 - 1)) (o + 21) j = I (o + 21) j := fun j => axu_a (by omega)
  have b23 : ∀ j, (ax_u I o 30 (I o 30 - 1)) (o + 23) j = I (o + 23) j := fun j => axu_a (by omega)
  have b20 : ∀ j, (ax_u I o 30 (I o 30 - 1)) (o + 20) j = I (o + 20) j := fun j => axu_a (by omega)
  have b22 : ∀ j, (ax_u I o 30 (I o 30 - 1)) (o + 22) j = I (o + 22) j := fun j => axu_a (by omega)
  have outer : (0 ≤ k ∧ k < (I o 30)) → ∀ (n : Nat) (x : Int) (c3 : ax_V), ((I o 30) - 1 - x).toNat ≤ n → k ≤ x → x ≤ (I o 30) - 1 → axX G f 0 0 (fun r1 T1 N1 I1 R1 z1 => r1 = some (vI (fg I o k).1) ∧ T1 = T ∧ N1 = N ∧ I1 = (fg I o k).2 ∧ R1 = R ∧ z1 = z) 28 [vR o, vI k, vI x, c3] [] T N (fgF (ax_u I o 30 (I o 30 - 1)) I o k (x - k) (x - k) (51 * (x - k)) (6 * (x - k))) R z 0 0 := by
    intro hkk n
    induction n with
    | zero =>
      intro x c3 hn h0 h1
      have hx : x = (I o 30) - 1 := by omega
      refine x_iload_n (pc := 28) hC dX12_forget_28 rfl ?_
      refine x_aload_n (pc := 29) hC dX12_forget_29 rfl ?_
      refine x_getI (pc := 30) hC gf_X12_219 dX12_forget_30 M.1 ?_
      rw [b30]
      refine x_icmp_ge (pc := 33) hC 146 dX12_forget_33 (by decide) (by omega) (by omega) (fun b33 => ?_) (fun b33 => ?_)
      · refine x_aload_n (pc := 146) hC dX12_forget_146 rfl ?_
        refine x_getI (pc := 147) hC gf_X12_219 dX12_forget_147 M.1 ?_
        rw [b30]
        refine x_iret (pc := 150) hC rfl dX12_forget_150 ?_
        have hx : x = (I o 30) - 1 := by omega
        refine ⟨?_, rfl, rfl, ?_, rfl, rfl⟩
        · unfold fg; rw [if_pos hkk]
        · unfold fg; rw [if_pos hkk, hx]
      · omega
    | succ n ih =>
      intro x c3 hn h0 h1
      have i2 : x < (I o 30) - 1 → ∀ (n : Nat) (y : Int), (6 - y).toNat ≤ n → 0 ≤ y → y ≤ 6 → axX G f 0 0 (fun r1 T1 N1 I1 R1 z1 => r1 = some (vI (fg I o k).1) ∧ T1 = T ∧ N1 = N ∧ I1 = (fg I o k).2 ∧ R1 = R ∧ z1 = z) 104 [vR o, vI k, vI x, vI y] [] T N (fgF (ax_u I o 30 (I o 30 - 1)) I o k (x - k + 1) (x - k + 1) (51 * (x - k) + 51) (6 * (x - k) + y)) R z 0 0 := by
        intro hx n
        induction n with
        | zero =>
          intro y hn h2 h3
          have hy : y = 6 := by omega
          refine x_iload_n (pc := 104) hC dX12_forget_104 rfl ?_
          refine x_bipush (pc := 105) hC dX12_forget_105 (by decide) ?_
          refine x_icmp_ge (pc := 107) hC 140 dX12_forget_107 (by decide) (by omega) (by omega) (fun b107 => ?_) (fun b107 => ?_)
          · refine x_iinc (pc := 140) hC dX12_forget_140 rfl ?_
            dsimp only [List.set]
            refine x_goto (pc := 143) hC 28 dX12_forget_143 (by decide) ?_
            have hy : y = 6 := by omega
            subst hy
            have := ih (x + 1) (vI 6) (by omega) (by omega) (by omega)
            rw [show x + 1 - k = x - k + 1 by omega, show 51 * (x - k + 1) = 51 * (x - k) + 51 by omega, show 6 * (x - k + 1) = 6 * (x - k) + 6 by omega] at this
            exact this
          · omega
        | succ n ih2 =>
          intro y hn h2 h3
          refine x_iload_n (pc := 104) hC dX12_forget_104 rfl ?_
          refine x_bipush (pc := 105) hC dX12_forget_105 (by decide) ?_
          refine x_icmp_ge (pc := 107) hC 140 dX12_forget_107 (by decide) (by omega) (by omega) (fun b107 => ?_) (fun b107 => ?_)
          · refine x_iinc (pc := 140) hC dX12_forget_140 rfl ?_
            dsimp only [List.set]
            refine x_goto (pc := 143) hC 28 dX12_forget_143 (by decide) ?_
            have hy : y = 6 := by omega
            subst hy
            have := ih (x + 1) (vI 6) (by omega) (by omega) (by omega)
            rw [show x + 1 - k = x - k + 1 by omega, show 51 * (x - k + 1) = 51 * (x - k) + 51 by omega, show 6 * (x - k + 1) = 6 * (x - k) + 6 by omega] at this
            exact this
          · refine x_aload_n (pc := 110) hC dX12_forget_110 rfl ?_
            refine x_getO (pc := 111) hC gf_X12_73 dX12_forget_111 M.1 (mo_rowOf M).1 ?_
            refine x_bipush (pc := 114) hC dX12_forget_114 (by decide) ?_
            refine x_iload_n (pc := 116) hC dX12_forget_116 rfl ?_
            refine x_imul (pc := 117) hC dX12_forget_117 ?_
            refine x_iload_n (pc := 118) hC dX12_forget_118 rfl ?_
            refine x_iadd (pc := 119) hC dX12_forget_119 ?_
            refine x_aload_n (pc := 120) hC dX12_forget_120 rfl ?_
            refine x_getO (pc := 121) hC gf_X12_73 dX12_forget_121 M.1 (mo_rowOf M).1 ?_
            refine x_bipush (pc := 124) hC dX12_forget_124 (by decide) ?_
            refine x_iload_n (pc := 126) hC dX12_forget_126 rfl ?_
            refine x_iconst (pc := 127) hC dX12_forget_127 ?_
            refine x_iadd (pc := 128) hC dX12_forget_128 ?_
            refine x_imul (pc := 129) hC dX12_forget_129 ?_
            refine x_iload_n (pc := 130) hC dX12_forget_130 rfl ?_
            refine x_iadd (pc := 131) hC dX12_forget_131 ?_
            refine x_iald (pc := 132) hC dX12_forget_132 (mo_rowOf M).2.1 (by omega) (by rw [(mo_rowOf M).2.2]; omega) ?_
            refine x_iast (pc := 133) hC dX12_forget_133 (mo_rowOf M).2.1 (by omega) (by rw [(mo_rowOf M).2.2]; omega) ?_
            refine x_iinc (pc := 134) hC dX12_forget_134 rfl ?_
            dsimp only [List.set]
            refine x_goto (pc := 137) hC 104 dX12_forget_137 (by decide) ?_
            rw [fg_r4 (by omega), b22, fg_4 (by omega) (by omega) (by congr 1; omega)]
            have := ih2 (y + 1) (by omega) (by omega) (by omega)
            rw [← Int.add_assoc] at this
            exact this
      have i1 : x < (I o 30) - 1 → ∀ (n : Nat) (y : Int), (51 - y).toNat ≤ n → 0 ≤ y → y ≤ 51 → axX G f 0 0 (fun r1 T1 N1 I1 R1 z1 => r1 = some (vI (fg I o k).1) ∧ T1 = T ∧ N1 = N ∧ I1 = (fg I o k).2 ∧ R1 = R ∧ z1 = z) 66 [vR o, vI k, vI x, vI y] [] T N (fgF (ax_u I o 30 (I o 30 - 1)) I o k (x - k + 1) (x - k + 1) (51 * (x - k) + y) (6 * (x - k))) R z 0 0 := by
        intro hx n
        induction n with
        | zero =>
          intro y hn h2 h3
          have hy : y = 51 := by omega
          refine x_iload_n (pc := 66) hC dX12_forget_66 rfl ?_
          refine x_bipush (pc := 67) hC dX12_forget_67 (by decide) ?_
          refine x_icmp_ge (pc := 69) hC 102 dX12_forget_69 (by decide) (by omega) (by omega) (fun b69 => ?_) (fun b69 => ?_)
          · refine x_iconst (pc := 102) hC dX12_forget_102 ?_
            refine x_istore_n (pc := 103) hC dX12_forget_103 (Nat.le_of_ble_eq_true rfl) ?_
            dsimp only [List.set]
            have hy : y = 51 := by omega
            subst hy
            have := i2 hx _ 0 (Nat.le_refl _) (by omega) (by omega)
            rw [Int.add_zero] at this
            exact this
          · omega
        | succ n ih2 =>
          intro y hn h2 h3
          refine x_iload_n (pc := 66) hC dX12_forget_66 rfl ?_
          refine x_bipush (pc := 67) hC dX12_forget_67 (by decide) ?_
          refine x_icmp_ge (pc := 69) hC 102 dX12_forget_69 (by decide) (by omega) (by omega) (fun b69 => ?_) (fun b69 => ?_)
          · refine x_iconst (pc := 102) hC dX12_forget_102 ?_
            refine x_istore_n (pc := 103) hC dX12_forget_103 (Nat.le_of_ble_eq_true rfl) ?_
            dsimp only [List.set]
            have hy : y = 51 := by omega
            subst hy
            have := i2 hx _ 0 (Nat.le_refl _) (by omega) (by omega)
            rw [Int.add_zero] at this
            exact this
          · refine x_aload_n (pc := 72) hC dX12_forget_72 rfl ?_
            refine x_getO (pc := 73) hC gf_X12_67 dX12_forget_73 M.1 (mo_known M).1 ?_
            refine x_bipush (pc := 76) hC dX12_forget_76 (by decide) ?_
            refine x_iload_n (pc := 78) hC dX12_forget_78 rfl ?_
            refine x_imul (pc := 79) hC dX12_forget_79 ?_
            refine x_iload_n (pc := 80) hC dX12_forget_80 rfl ?_
            refine x_iadd (pc := 81) hC dX12_forget_81 ?_
            refine x_aload_n (pc := 82) hC dX12_forget_82 rfl ?_
            refine x_getO (pc := 83) hC gf_X12_67 dX12_forget_83 M.1 (mo_known M).1 ?_
            refine x_bipush (pc := 86) hC dX12_forget_86 (by decide) ?_
            refine x_iload_n (pc := 88) hC dX12_forget_88 rfl ?_
            refine x_iconst (pc := 89) hC dX12_forget_89 ?_
            refine x_iadd (pc := 90) hC dX12_forget_90 ?_
            refine x_imul (pc := 91) hC dX12_forget_91 ?_
            refine x_iload_n (pc := 92) hC dX12_forget_92 rfl ?_
            refine x_iadd (pc := 93) hC dX12_forget_93 ?_
            refine x_iald (pc := 94) hC dX12_forget_94 (mo_known M).2.1 (by omega) (by rw [(mo_known M).2.2]; omega) ?_
            refine x_iast (pc := 95) hC dX12_forget_95 (mo_known M).2.1 (by omega) (by rw [(mo_known M).2.2]; omega) ?_
            refine x_iinc (pc := 96) hC dX12_forget_96 rfl ?_
            dsimp only [List.set]
            refine x_goto (pc := 99) hC 66 dX12_forget_99 (by decide) ?_
            rw [fg_r3 (by omega), b20, fg_3 (by omega) (by omega) (by congr 1; omega)]
            have := ih2 (y + 1) (by omega) (by omega) (by omega)
            rw [← Int.add_assoc] at this
            exact this
      refine x_iload_n (pc := 28) hC dX12_forget_28 rfl ?_
      refine x_aload_n (pc := 29) hC dX12_forget_29 rfl ?_
      refine x_getI (pc := 30) hC gf_X12_219 dX12_forget_30 M.1 ?_
      rw [b30]
      refine x_icmp_ge (pc := 33) hC 146 dX12_forget_33 (by decide) (by omega) (by omega) (fun b33 => ?_) (fun b33 => ?_)
      · refine x_aload_n (pc := 146) hC dX12_forget_146 rfl ?_
        refine x_getI (pc := 147) hC gf_X12_219 dX12_forget_147 M.1 ?_
        rw [b30]
        refine x_iret (pc := 150) hC rfl dX12_forget_150 ?_
        have hx : x = (I o 30) - 1 := by omega
        refine ⟨?_, rfl, rfl, ?_, rfl, rfl⟩
        · unfold fg; rw [if_pos hkk]
        · unfold fg; rw [if_pos hkk, hx]
      · refine x_aload_n (pc := 36) hC dX12_forget_36 rfl ?_
        refine x_getO (pc := 37) hC gf_X12_70 dX12_forget_37 M.1 (mo_knownSize M).1 ?_
        refine x_iload_n (pc := 40) hC dX12_forget_40 rfl ?_
        refine x_aload_n (pc := 41) hC dX12_forget_41 rfl ?_
        refine x_getO (pc := 42) hC gf_X12_70 dX12_forget_42 M.1 (mo_knownSize M).1 ?_
        refine x_iload_n (pc := 45) hC dX12_forget_45 rfl ?_
        refine x_iconst (pc := 46) hC dX12_forget_46 ?_
        refine x_iadd (pc := 47) hC dX12_forget_47 ?_
        refine x_iald (pc := 48) hC dX12_forget_48 (mo_knownSize M).2.1 (by omega) (by rw [(mo_knownSize M).2.2]; omega) ?_
        refine x_iast (pc := 49) hC dX12_forget_49 (mo_knownSize M).2.1 (by omega) (by rw [(mo_knownSize M).2.2]; omega) ?_
        refine x_aload_n (pc := 50) hC dX12_forget_50 rfl ?_
        refine x_getO (pc := 51) hC gf_X12_76 dX12_forget_51 M.1 (mo_rowSize M).1 ?_
        refine x_iload_n (pc := 54) hC dX12_forget_54 rfl ?_
        refine x_aload_n (pc := 55) hC dX12_forget_55 rfl ?_
        refine x_getO (pc := 56) hC gf_X12_76 dX12_forget_56 M.1 (mo_rowSize M).1 ?_
        refine x_iload_n (pc := 59) hC dX12_forget_59 rfl ?_
        refine x_iconst (pc := 60) hC dX12_forget_60 ?_
        refine x_iadd (pc := 61) hC dX12_forget_61 ?_
        refine x_iald (pc := 62) hC dX12_forget_62 (mo_rowSize M).2.1 (by omega) (by rw [(mo_rowSize M).2.2]; omega) ?_
        refine x_iast (pc := 63) hC dX12_forget_63 (mo_rowSize M).2.1 (by omega) (by rw [(mo_rowSize M).2.2]; omega) ?_
        refine x_iconst (pc := 64) hC dX12_forget_64 ?_
        refine x_istore_n (pc := 65) hC dX12_forget_65 (Nat.le_of_ble_eq_true rfl) ?_
        dsimp only [List.set]
        rw [fg_r1 (by omega), b21, fg_1 (by omega) (by omega) rfl, fg_r2 (by omega), b23, fg_2 (by omega) (by omega) rfl]
        have := i1 (by omega) _ 0 (Nat.le_refl _) (by omega) (by omega)
        rw [Int.add_zero] at this
        exact this
  refine x_iload_n (pc := 0) hC dX12_forget_0 rfl ?_
  refine x_iconst (pc := 1) hC dX12_forget_1 ?_
  refine x_aload_n (pc := 2) hC dX12_forget_2 rfl ?_
  refine x_getI (pc := 3) hC gf_X12_219 dX12_forget_3 M.1 ?_
  refine x_iconst (pc := 6) hC dX12_forget_6 ?_
  refine x_isub (pc := 7) hC dX12_forget_7 ?_
  refine x_mS (pc := 8) hC cs_X12_139 dX12_forget_8 (m_within hk (by decide) (by omega)) rfl (by decide) rfl rfl (Nat.le_of_ble_eq_true rfl) ?_
  refine x_ifB_ne (pc := 11) hC 16 dX12_forget_11 (by decide) (fun b11 => ?_) (fun b11 => ?_)
  · refine x_aload_n (pc := 16) hC dX12_forget_16 rfl ?_
    refine x_dup (pc := 17) hC dX12_forget_17 rfl ?_
    refine x_getI (pc := 18) hC gf_X12_219 dX12_forget_18 M.1 ?_
    refine x_iconst (pc := 21) hC dX12_forget_21 ?_
    refine x_isub (pc := 22) hC dX12_forget_22 ?_
    refine x_putI (pc := 23) hC pf_X12_219 dX12_forget_23 M.1 (by decide) ?_
    refine x_iload_n (pc := 26) hC dX12_forget_26 rfl ?_
    refine x_istore_n (pc := 27) hC dX12_forget_27 (Nat.le_of_ble_eq_true rfl) ?_
    dsimp only [List.set]
    have := outer (by omega) _ k vU (Nat.le_refl _) (by omega) (by omega)
    rw [Int.sub_self, Int.mul_zero, Int.mul_zero, fg_0] at this
    exact this
  · refine x_iconst (pc := 14) hC dX12_forget_14 ?_
    refine x_iret (pc := 15) hC rfl dX12_forget_15 ?_
    exact ⟨by unfold fg; rw [if_neg (by omega)], rfl, rfl, by unfold fg; rw [if_neg (by omega)], rfl, rfl⟩

/-- what is kept for an end before the end: laid aside, or taken back -/
def kpG (I : Nat → Int → Int) (b : Int) (a c : Nat) : Int → Int := fun j => if b = 0 then I a j else I c j
def kpF (I : Nat → Int → Int) (o : Nat) (b n1 n2 n3 : Int) : Nat → Int → Int := ax_f (ax_f (ax_f (ax_f (ax_f (ax_f (ax_f (ax_f I (o + 20) 0 n1 (kpG I b (o + 20) (o + 24))) (o + 24) 0 n1 (kpG I b (o + 20) (o + 24))) (o + 22) 0 n2 (kpG I b (o + 22) (o + 26))) (o + 26) 0 n2 (kpG I b (o + 22) (o + 26))) (o + 21) 0 n3 (kpG I b (o + 21) (o + 25))) (o + 25) 0 n3 (kpG I b (o + 21) (o + 25))) (o + 23) 0 n3 (kpG I b (o + 23) (o + 27))) (o + 27) 0 n3 (kpG I b (o + 23) (o + 27))
def kpI (I : Nat → Int → Int) (o : Nat) (b : Int) : Nat → Int → Int := ax_f (ax_f (ax_u (ax_u (kpF I o b 408 48 8) o 30 (if b = 0 then I o 30 else I o 35)) o 35 (if b = 0 then I o 30 else I o 35)) (o + 29) 0 4 (kpG I b (o + 29) (o + 30))) (o + 30) 0 4 (kpG I b (o + 29) (o + 30))
/-- two rows laid together, one place on -/
theorem kp_step {B I : Nat → Int → Int} {a c : Nat} {b n v w : Int} (hac : c ≠ a) (hn : 0 ≤ n) (hv : v = kpG I b a c n) (hw : w = kpG I b a c n) : ax_u (ax_u (ax_f (ax_f B a 0 n (kpG I b a c)) c 0 n (kpG I b a c)) a n v) c n w = ax_f (ax_f B a 0 (n + 1) (kpG I b a c)) c 0 (n + 1) (kpG I b a c) := by
  rw [axf_uc (fun e => hac e.symm), axf_step hn (by omega) hv, axf_step hn (by omega) hw]
theorem kp_out {B I : Nat → Int → Int} {a c q : Nat} {b n : Int} (h1 : q ≠ a) (h2 : q ≠ c) : ax_f (ax_f B a 0 n (kpG I b a c)) c 0 n (kpG I b a c) q = B q := by
  rw [axf_row h2, axf_row h1]
theorem kp_r1 {B I : Nat → Int → Int} {a c : Nat} {b n : Int} (hac : c ≠ a) : ax_f (ax_f B a 0 n (kpG I b a c)) c 0 n (kpG I b a c) a n = B a n := by
  rw [axf_a (fun e => hac e.symm), axf_out (by omega)]
theorem kp_r2 {B I : Nat → Int → Int} {a c : Nat} {b n : Int} (hac : c ≠ a) : ax_f (ax_f B a 0 n (kpG I b a c)) c 0 n (kpG I b a c) c n = B c n := by
  rw [axf_out (by omega), axf_a hac]

set_option maxHeartbeats 4000000 in
set_option maxRecDepth 100000 in
theorem m_keeps {G : ax_G} {T : Nat → Nat} {N : Nat → Int} {I : Nat → Int → Int} {R : Nat → Int → Option Nat} {z o : Nat} (M : axMo T N R o) {b : Int} (hb : b = 0 ∨ b = 1) : axE G YX12_keeps 0 [vR o, vI b] T N I R z none (kpI I o b) := by

  refine ax_enter (by decide) (Nat.le_of_ble_eq_true rfl) (ax_cat rfl) (fun f hC => ?_)
  show axX G f 0 0 _ 0 [vR o, vI b, vU] [] T N I R z 0 0
  have g0 : ∀ (a c : Nat) (j : Int), b = 0 → I a j = kpG I b a c j := fun a c j h => by unfold kpG; rw [if_pos h]
  have g1 : ∀ (a c : Nat) (j : Int), b ≠ 0 → I c j = kpG I b a c j := fun a c j h => by unfold kpG; rw [if_neg h]
  have l4 : ∀ (n : Nat) (x : Int) (B : Nat → Int → Int), (4 - x).toNat ≤ n → 0 ≤ x → x ≤ 4 → B = (ax_u (ax_u (ax_f (ax_f (ax_f (ax_f (ax_f (ax_f (ax_f (ax_f I (o + 20) 0 (408) (kpG I b (o + 20) (o + 24))) (o + 24) 0 (408) (kpG I b (o + 20) (o + 24))) (o + 22) 0 (48) (kpG I b (o + 22) (o + 26))) (o + 26) 0 (48) (kpG I b (o + 22) (o + 26))) (o + 21) 0 (8) (kpG I b (o + 21) (o + 25))) (o + 25) 0 (8) (kpG I b (o + 21) (o + 25))) (o + 23) 0 (8) (kpG I b (o + 23) (o + 27))) (o + 27) 0 (8) (kpG I b (o + 23) (o + 27))) o 30 (if b = 0 then I o 30 else I o 35)) o 35 (if b = 0 then I o 30 else I o 35)) → axX G f 0 0 (fun r1 T1 N1 I1 R1 z1 => r1 = none ∧ T1 = T ∧ N1 = N ∧ I1 = (kpI I o b) ∧ R1 = R ∧ z1 = z) 220 [vR o, vI b, vI x] [] T N (ax_f (ax_f B (o + 29) 0 (x) (kpG I b (o + 29) (o + 30))) (o + 30) 0 (x) (kpG I b (o + 29) (o + 30))) R z 0 0 := by
    intro n
    induction n with
    | zero =>
      intro x B hn h0 h1 hB
      have hx : x = 4 := by omega
      refine x_iload_n (pc := 220) hC dX12_keeps_220 rfl ?_
      refine x_iconst (pc := 221) hC dX12_keeps_221 ?_
      refine x_icmp_ge (pc := 222) hC 268 dX12_keeps_222 (by decide) (by omega) (by omega) (fun b222 => ?_) (fun b222 => ?_)
      · refine x_vret (pc := 268) hC rfl dX12_keeps_268 ?_
        have hx : x = 4 := by omega
        exact ⟨rfl, rfl, rfl, by rw [hB, hx]; rfl, rfl, rfl⟩
      · omega
    | succ n ih =>
      intro x B hn h0 h1 hB
      have r1 : B (o + 29) = I (o + 29) := by rw [hB, axu_row (by omega), axu_row (by omega), kp_out (by omega) (by omega), kp_out (by omega) (by omega), kp_out (by omega) (by omega), kp_out (by omega) (by omega)]
      have r2 : B (o + 30) = I (o + 30) := by rw [hB, axu_row (by omega), axu_row (by omega), kp_out (by omega) (by omega), kp_out (by omega) (by omega), kp_out (by omega) (by omega), kp_out (by omega) (by omega)]
      refine x_iload_n (pc := 220) hC dX12_keeps_220 rfl ?_
      refine x_iconst (pc := 221) hC dX12_keeps_221 ?_
      refine x_icmp_ge (pc := 222) hC 268 dX12_keeps_222 (by decide) (by omega) (by omega) (fun b222 => ?_) (fun b222 => ?_)
      · refine x_vret (pc := 268) hC rfl dX12_keeps_268 ?_
        have hx : x = 4 := by omega
        exact ⟨rfl, rfl, rfl, by rw [hB, hx]; rfl, rfl, rfl⟩
      · refine x_aload_n (pc := 225) hC dX12_keeps_225 rfl ?_
        refine x_getO (pc := 226) hC gf_X12_94 dX12_keeps_226 M.1 (mo_done M).1 ?_
        refine x_iload_n (pc := 229) hC dX12_keeps_229 rfl ?_
        refine x_iload_n (pc := 230) hC dX12_keeps_230 rfl ?_
        refine x_if_eq (pc := 231) hC 243 dX12_keeps_231 (by decide) (by omega) (fun b231 => ?_) (fun b231 => ?_)
        · refine x_aload_n (pc := 243) hC dX12_keeps_243 rfl ?_
          refine x_getO (pc := 244) hC gf_X12_94 dX12_keeps_244 M.1 (mo_done M).1 ?_
          refine x_iload_n (pc := 247) hC dX12_keeps_247 rfl ?_
          refine x_iald (pc := 248) hC dX12_keeps_248 (mo_done M).2.1 (by omega) (by rw [(mo_done M).2.2]; omega) ?_
          refine x_iast (pc := 249) hC dX12_keeps_249 (mo_done M).2.1 (by omega) (by rw [(mo_done M).2.2]; omega) ?_
          refine x_aload_n (pc := 250) hC dX12_keeps_250 rfl ?_
          refine x_getO (pc := 251) hC gf_X12_97 dX12_keeps_251 M.1 (mo_keptDone M).1 ?_
          refine x_iload_n (pc := 254) hC dX12_keeps_254 rfl ?_
          refine x_aload_n (pc := 255) hC dX12_keeps_255 rfl ?_
          refine x_getO (pc := 256) hC gf_X12_94 dX12_keeps_256 M.1 (mo_done M).1 ?_
          refine x_iload_n (pc := 259) hC dX12_keeps_259 rfl ?_
          refine x_iald (pc := 260) hC dX12_keeps_260 (mo_done M).2.1 (by omega) (by rw [(mo_done M).2.2]; omega) ?_
          refine x_iast (pc := 261) hC dX12_keeps_261 (mo_keptDone M).2.1 (by omega) (by rw [(mo_keptDone M).2.2]; omega) ?_
          refine x_iinc (pc := 262) hC dX12_keeps_262 rfl ?_
          dsimp only [List.set]
          refine x_goto (pc := 265) hC 220 dX12_keeps_265 (by decide) ?_
          rw [axu_s]
          first
          | (rw [kp_r1 (by omega), r1, kp_step (by omega) h0 (g0 _ _ _ (by omega)) (g0 _ _ _ (by omega))]; exact ih (x + 1) B (by omega) (by omega) (by omega) hB)
          | (rw [kp_r2 (by omega), r2, kp_step (by omega) h0 (g1 _ _ _ (by omega)) (g1 _ _ _ (by omega))]; exact ih (x + 1) B (by omega) (by omega) (by omega) hB)
        · refine x_aload_n (pc := 234) hC dX12_keeps_234 rfl ?_
          refine x_getO (pc := 235) hC gf_X12_97 dX12_keeps_235 M.1 (mo_keptDone M).1 ?_
          refine x_iload_n (pc := 238) hC dX12_keeps_238 rfl ?_
          refine x_iald (pc := 239) hC dX12_keeps_239 (mo_keptDone M).2.1 (by omega) (by rw [(mo_keptDone M).2.2]; omega) ?_
          refine x_goto (pc := 240) hC 249 dX12_keeps_240 (by decide) ?_
          refine x_iast (pc := 249) hC dX12_keeps_249 (mo_done M).2.1 (by omega) (by rw [(mo_done M).2.2]; omega) ?_
          refine x_aload_n (pc := 250) hC dX12_keeps_250 rfl ?_
          refine x_getO (pc := 251) hC gf_X12_97 dX12_keeps_251 M.1 (mo_keptDone M).1 ?_
          refine x_iload_n (pc := 254) hC dX12_keeps_254 rfl ?_
          refine x_aload_n (pc := 255) hC dX12_keeps_255 rfl ?_
          refine x_getO (pc := 256) hC gf_X12_94 dX12_keeps_256 M.1 (mo_done M).1 ?_
          refine x_iload_n (pc := 259) hC dX12_keeps_259 rfl ?_
          refine x_iald (pc := 260) hC dX12_keeps_260 (mo_done M).2.1 (by omega) (by rw [(mo_done M).2.2]; omega) ?_
          refine x_iast (pc := 261) hC dX12_keeps_261 (mo_keptDone M).2.1 (by omega) (by rw [(mo_keptDone M).2.2]; omega) ?_
          refine x_iinc (pc := 262) hC dX12_keeps_262 rfl ?_
          dsimp only [List.set]
          refine x_goto (pc := 265) hC 220 dX12_keeps_265 (by decide) ?_
          rw [axu_s]
          first
          | (rw [kp_r1 (by omega), r1, kp_step (by omega) h0 (g0 _ _ _ (by omega)) (g0 _ _ _ (by omega))]; exact ih (x + 1) B (by omega) (by omega) (by omega) hB)
          | (rw [kp_r2 (by omega), r2, kp_step (by omega) h0 (g1 _ _ _ (by omega)) (g1 _ _ _ (by omega))]; exact ih (x + 1) B (by omega) (by omega) (by omega) hB)
  have l3 : ∀ (n : Nat) (x : Int) (B : Nat → Int → Int), (8 - x).toNat ≤ n → 0 ≤ x → x ≤ 8 → B = (ax_f (ax_f (ax_f (ax_f I (o + 20) 0 (408) (kpG I b (o + 20) (o + 24))) (o + 24) 0 (408) (kpG I b (o + 20) (o + 24))) (o + 22) 0 (48) (kpG I b (o + 22) (o + 26))) (o + 26) 0 (48) (kpG I b (o + 22) (o + 26))) → axX G f 0 0 (fun r1 T1 N1 I1 R1 z1 => r1 = none ∧ T1 = T ∧ N1 = N ∧ I1 = (kpI I o b) ∧ R1 = R ∧ z1 = z) 105 [vR o, vI b, vI x] [] T N (ax_f (ax_f (ax_f (ax_f B (o + 21) 0 (x) (kpG I b (o + 21) (o + 25))) (o + 25) 0 (x) (kpG I b (o + 21) (o + 25))) (o + 23) 0 (x) (kpG I b (o + 23) (o + 27))) (o + 27) 0 (x) (kpG I b (o + 23) (o + 27))) R z 0 0 := by
    intro n
    induction n with
    | zero =>
      intro x B hn h0 h1 hB
      have hx : x = 8 := by omega
      have r30 : B o = I o := by rw [hB, kp_out (by omega) (by omega), kp_out (by omega) (by omega)]
      refine x_iload_n (pc := 105) hC dX12_keeps_105 rfl ?_
      refine x_bipush (pc := 106) hC dX12_keeps_106 (by decide) ?_
      refine x_icmp_ge (pc := 108) hC 191 dX12_keeps_108 (by decide) (by omega) (by omega) (fun b108 => ?_) (fun b108 => ?_)
      · refine x_aload_n (pc := 191) hC dX12_keeps_191 rfl ?_
        refine x_iload_n (pc := 192) hC dX12_keeps_192 rfl ?_
        refine x_if_eq (pc := 193) hC 203 dX12_keeps_193 (by decide) (by omega) (fun b193 => ?_) (fun b193 => ?_)
        · refine x_aload_n (pc := 203) hC dX12_keeps_203 rfl ?_
          refine x_getI (pc := 204) hC gf_X12_219 dX12_keeps_204 M.1 ?_
          refine x_putI (pc := 207) hC pf_X12_219 dX12_keeps_207 M.1 (by decide) ?_
          refine x_aload_n (pc := 210) hC dX12_keeps_210 rfl ?_
          refine x_aload_n (pc := 211) hC dX12_keeps_211 rfl ?_
          refine x_getI (pc := 212) hC gf_X12_219 dX12_keeps_212 M.1 ?_
          refine x_putI (pc := 215) hC pf_X12_259 dX12_keeps_215 M.1 (by decide) ?_
          refine x_iconst (pc := 218) hC dX12_keeps_218 ?_
          refine x_istore_n (pc := 219) hC dX12_keeps_219 (Nat.le_of_ble_eq_true rfl) ?_
          dsimp only [List.set]
          have hx : x = 8 := by omega
          have := l4 _ 0 _ (Nat.le_refl _) (by omega) (by omega) rfl
          rw [axf_0, axf_0] at this
          rw [axu_s, kp_out (by omega) (by omega), kp_out (by omega) (by omega), r30, hx, hB]
          first
          | (rw [if_pos (by omega)] at this; exact this)
          | (rw [if_neg (by omega)] at this; exact this)
        · refine x_aload_n (pc := 196) hC dX12_keeps_196 rfl ?_
          refine x_getI (pc := 197) hC gf_X12_259 dX12_keeps_197 M.1 ?_
          refine x_goto (pc := 200) hC 207 dX12_keeps_200 (by decide) ?_
          refine x_putI (pc := 207) hC pf_X12_219 dX12_keeps_207 M.1 (by decide) ?_
          refine x_aload_n (pc := 210) hC dX12_keeps_210 rfl ?_
          refine x_aload_n (pc := 211) hC dX12_keeps_211 rfl ?_
          refine x_getI (pc := 212) hC gf_X12_219 dX12_keeps_212 M.1 ?_
          refine x_putI (pc := 215) hC pf_X12_259 dX12_keeps_215 M.1 (by decide) ?_
          refine x_iconst (pc := 218) hC dX12_keeps_218 ?_
          refine x_istore_n (pc := 219) hC dX12_keeps_219 (Nat.le_of_ble_eq_true rfl) ?_
          dsimp only [List.set]
          have hx : x = 8 := by omega
          have := l4 _ 0 _ (Nat.le_refl _) (by omega) (by omega) rfl
          rw [axf_0, axf_0] at this
          rw [axu_s, kp_out (by omega) (by omega), kp_out (by omega) (by omega), r30, hx, hB]
          first
          | (rw [if_pos (by omega)] at this; exact this)
          | (rw [if_neg (by omega)] at this; exact this)
      · omega
    | succ n ih =>
      intro x B hn h0 h1 hB
      have r30 : B o = I o := by rw [hB, kp_out (by omega) (by omega), kp_out (by omega) (by omega)]
      have r1 : B (o + 21) = I (o + 21) := by rw [hB, kp_out (by omega) (by omega), kp_out (by omega) (by omega)]
      have r2 : B (o + 25) = I (o + 25) := by rw [hB, kp_out (by omega) (by omega), kp_out (by omega) (by omega)]
      have r3 : B (o + 23) = I (o + 23) := by rw [hB, kp_out (by omega) (by omega), kp_out (by omega) (by omega)]
      have r4 : B (o + 27) = I (o + 27) := by rw [hB, kp_out (by omega) (by omega), kp_out (by omega) (by omega)]
      refine x_iload_n (pc := 105) hC dX12_keeps_105 rfl ?_
      refine x_bipush (pc := 106) hC dX12_keeps_106 (by decide) ?_
      refine x_icmp_ge (pc := 108) hC 191 dX12_keeps_108 (by decide) (by omega) (by omega) (fun b108 => ?_) (fun b108 => ?_)
      · refine x_aload_n (pc := 191) hC dX12_keeps_191 rfl ?_
        refine x_iload_n (pc := 192) hC dX12_keeps_192 rfl ?_
        refine x_if_eq (pc := 193) hC 203 dX12_keeps_193 (by decide) (by omega) (fun b193 => ?_) (fun b193 => ?_)
        · refine x_aload_n (pc := 203) hC dX12_keeps_203 rfl ?_
          refine x_getI (pc := 204) hC gf_X12_219 dX12_keeps_204 M.1 ?_
          refine x_putI (pc := 207) hC pf_X12_219 dX12_keeps_207 M.1 (by decide) ?_
          refine x_aload_n (pc := 210) hC dX12_keeps_210 rfl ?_
          refine x_aload_n (pc := 211) hC dX12_keeps_211 rfl ?_
          refine x_getI (pc := 212) hC gf_X12_219 dX12_keeps_212 M.1 ?_
          refine x_putI (pc := 215) hC pf_X12_259 dX12_keeps_215 M.1 (by decide) ?_
          refine x_iconst (pc := 218) hC dX12_keeps_218 ?_
          refine x_istore_n (pc := 219) hC dX12_keeps_219 (Nat.le_of_ble_eq_true rfl) ?_
          dsimp only [List.set]
          have hx : x = 8 := by omega
          have := l4 _ 0 _ (Nat.le_refl _) (by omega) (by omega) rfl
          rw [axf_0, axf_0] at this
          rw [axu_s, kp_out (by omega) (by omega), kp_out (by omega) (by omega), r30, hx, hB]
          first
          | (rw [if_pos (by omega)] at this; exact this)
          | (rw [if_neg (by omega)] at this; exact this)
        · refine x_aload_n (pc := 196) hC dX12_keeps_196 rfl ?_
          refine x_getI (pc := 197) hC gf_X12_259 dX12_keeps_197 M.1 ?_
          refine x_goto (pc := 200) hC 207 dX12_keeps_200 (by decide) ?_
          refine x_putI (pc := 207) hC pf_X12_219 dX12_keeps_207 M.1 (by decide) ?_
          refine x_aload_n (pc := 210) hC dX12_keeps_210 rfl ?_
          refine x_aload_n (pc := 211) hC dX12_keeps_211 rfl ?_
          refine x_getI (pc := 212) hC gf_X12_219 dX12_keeps_212 M.1 ?_
          refine x_putI (pc := 215) hC pf_X12_259 dX12_keeps_215 M.1 (by decide) ?_
          refine x_iconst (pc := 218) hC dX12_keeps_218 ?_
          refine x_istore_n (pc := 219) hC dX12_keeps_219 (Nat.le_of_ble_eq_true rfl) ?_
          dsimp only [List.set]
          have hx : x = 8 := by omega
          have := l4 _ 0 _ (Nat.le_refl _) (by omega) (by omega) rfl
          rw [axf_0, axf_0] at this
          rw [axu_s, kp_out (by omega) (by omega), kp_out (by omega) (by omega), r30, hx, hB]
          first
          | (rw [if_pos (by omega)] at this; exact this)
          | (rw [if_neg (by omega)] at this; exact this)
      · refine x_aload_n (pc := 111) hC dX12_keeps_111 rfl ?_
        refine x_getO (pc := 112) hC gf_X12_70 dX12_keeps_112 M.1 (mo_knownSize M).1 ?_
        refine x_iload_n (pc := 115) hC dX12_keeps_115 rfl ?_
        refine x_iload_n (pc := 116) hC dX12_keeps_116 rfl ?_
        refine x_if_eq (pc := 117) hC 129 dX12_keeps_117 (by decide) (by omega) (fun b117 => ?_) (fun b117 => ?_)
        · refine x_aload_n (pc := 129) hC dX12_keeps_129 rfl ?_
          refine x_getO (pc := 130) hC gf_X12_70 dX12_keeps_130 M.1 (mo_knownSize M).1 ?_
          refine x_iload_n (pc := 133) hC dX12_keeps_133 rfl ?_
          refine x_iald (pc := 134) hC dX12_keeps_134 (mo_knownSize M).2.1 (by omega) (by rw [(mo_knownSize M).2.2]; omega) ?_
          refine x_iast (pc := 135) hC dX12_keeps_135 (mo_knownSize M).2.1 (by omega) (by rw [(mo_knownSize M).2.2]; omega) ?_
          refine x_aload_n (pc := 136) hC dX12_keeps_136 rfl ?_
          refine x_getO (pc := 137) hC gf_X12_82 dX12_keeps_137 M.1 (mo_keptKnownSize M).1 ?_
          refine x_iload_n (pc := 140) hC dX12_keeps_140 rfl ?_
          refine x_aload_n (pc := 141) hC dX12_keeps_141 rfl ?_
          refine x_getO (pc := 142) hC gf_X12_70 dX12_keeps_142 M.1 (mo_knownSize M).1 ?_
          refine x_iload_n (pc := 145) hC dX12_keeps_145 rfl ?_
          refine x_iald (pc := 146) hC dX12_keeps_146 (mo_knownSize M).2.1 (by omega) (by rw [(mo_knownSize M).2.2]; omega) ?_
          refine x_iast (pc := 147) hC dX12_keeps_147 (mo_keptKnownSize M).2.1 (by omega) (by rw [(mo_keptKnownSize M).2.2]; omega) ?_
          refine x_aload_n (pc := 148) hC dX12_keeps_148 rfl ?_
          refine x_getO (pc := 149) hC gf_X12_76 dX12_keeps_149 M.1 (mo_rowSize M).1 ?_
          refine x_iload_n (pc := 152) hC dX12_keeps_152 rfl ?_
          refine x_iload_n (pc := 153) hC dX12_keeps_153 rfl ?_
          refine x_if_eq (pc := 154) hC 166 dX12_keeps_154 (by decide) (by omega) (fun b154 => ?_) (fun b154 => ?_)
          · refine x_aload_n (pc := 166) hC dX12_keeps_166 rfl ?_
            refine x_getO (pc := 167) hC gf_X12_76 dX12_keeps_167 M.1 (mo_rowSize M).1 ?_
            refine x_iload_n (pc := 170) hC dX12_keeps_170 rfl ?_
            refine x_iald (pc := 171) hC dX12_keeps_171 (mo_rowSize M).2.1 (by omega) (by rw [(mo_rowSize M).2.2]; omega) ?_
            refine x_iast (pc := 172) hC dX12_keeps_172 (mo_rowSize M).2.1 (by omega) (by rw [(mo_rowSize M).2.2]; omega) ?_
            refine x_aload_n (pc := 173) hC dX12_keeps_173 rfl ?_
            refine x_getO (pc := 174) hC gf_X12_88 dX12_keeps_174 M.1 (mo_keptRowSize M).1 ?_
            refine x_iload_n (pc := 177) hC dX12_keeps_177 rfl ?_
            refine x_aload_n (pc := 178) hC dX12_keeps_178 rfl ?_
            refine x_getO (pc := 179) hC gf_X12_76 dX12_keeps_179 M.1 (mo_rowSize M).1 ?_
            refine x_iload_n (pc := 182) hC dX12_keeps_182 rfl ?_
            refine x_iald (pc := 183) hC dX12_keeps_183 (mo_rowSize M).2.1 (by omega) (by rw [(mo_rowSize M).2.2]; omega) ?_
            refine x_iast (pc := 184) hC dX12_keeps_184 (mo_keptRowSize M).2.1 (by omega) (by rw [(mo_keptRowSize M).2.2]; omega) ?_
            refine x_iinc (pc := 185) hC dX12_keeps_185 rfl ?_
            dsimp only [List.set]
            refine x_goto (pc := 188) hC 105 dX12_keeps_188 (by decide) ?_
            rw [axu_s, axu_s]
            first
            | (rw [kp_out (by omega) (by omega), kp_r1 (by omega), r1, axu_a (by omega), axu_a (by omega), kp_r1 (by omega), kp_out (by omega) (by omega), r3, axf_uc (a := o + 27) (b := o + 21) (by omega), axf_uc (a := o + 23) (b := o + 21) (by omega), axf_uc (a := o + 27) (b := o + 25) (by omega), axf_uc (a := o + 23) (b := o + 25) (by omega), kp_step (a := o + 21) (by omega) h0 (g0 _ _ _ (by omega)) (g0 _ _ _ (by omega)), kp_step (by omega) h0 (g0 _ _ _ (by omega)) (g0 _ _ _ (by omega))]; exact ih (x + 1) B (by omega) (by omega) (by omega) hB)
            | (rw [kp_out (by omega) (by omega), kp_r2 (by omega), r2, axu_a (by omega), axu_a (by omega), kp_r2 (by omega), kp_out (by omega) (by omega), r4, axf_uc (a := o + 27) (b := o + 21) (by omega), axf_uc (a := o + 23) (b := o + 21) (by omega), axf_uc (a := o + 27) (b := o + 25) (by omega), axf_uc (a := o + 23) (b := o + 25) (by omega), kp_step (a := o + 21) (by omega) h0 (g1 _ _ _ (by omega)) (g1 _ _ _ (by omega)), kp_step (by omega) h0 (g1 _ _ _ (by omega)) (g1 _ _ _ (by omega))]; exact ih (x + 1) B (by omega) (by omega) (by omega) hB)
            | (exfalso; omega)
          · refine x_aload_n (pc := 157) hC dX12_keeps_157 rfl ?_
            refine x_getO (pc := 158) hC gf_X12_88 dX12_keeps_158 M.1 (mo_keptRowSize M).1 ?_
            refine x_iload_n (pc := 161) hC dX12_keeps_161 rfl ?_
            refine x_iald (pc := 162) hC dX12_keeps_162 (mo_keptRowSize M).2.1 (by omega) (by rw [(mo_keptRowSize M).2.2]; omega) ?_
            refine x_goto (pc := 163) hC 172 dX12_keeps_163 (by decide) ?_
            refine x_iast (pc := 172) hC dX12_keeps_172 (mo_rowSize M).2.1 (by omega) (by rw [(mo_rowSize M).2.2]; omega) ?_
            refine x_aload_n (pc := 173) hC dX12_keeps_173 rfl ?_
            refine x_getO (pc := 174) hC gf_X12_88 dX12_keeps_174 M.1 (mo_keptRowSize M).1 ?_
            refine x_iload_n (pc := 177) hC dX12_keeps_177 rfl ?_
            refine x_aload_n (pc := 178) hC dX12_keeps_178 rfl ?_
            refine x_getO (pc := 179) hC gf_X12_76 dX12_keeps_179 M.1 (mo_rowSize M).1 ?_
            refine x_iload_n (pc := 182) hC dX12_keeps_182 rfl ?_
            refine x_iald (pc := 183) hC dX12_keeps_183 (mo_rowSize M).2.1 (by omega) (by rw [(mo_rowSize M).2.2]; omega) ?_
            refine x_iast (pc := 184) hC dX12_keeps_184 (mo_keptRowSize M).2.1 (by omega) (by rw [(mo_keptRowSize M).2.2]; omega) ?_
            refine x_iinc (pc := 185) hC dX12_keeps_185 rfl ?_
            dsimp only [List.set]
            refine x_goto (pc := 188) hC 105 dX12_keeps_188 (by decide) ?_
            rw [axu_s, axu_s]
            first
            | (rw [kp_out (by omega) (by omega), kp_r1 (by omega), r1, axu_a (by omega), axu_a (by omega), kp_r1 (by omega), kp_out (by omega) (by omega), r3, axf_uc (a := o + 27) (b := o + 21) (by omega), axf_uc (a := o + 23) (b := o + 21) (by omega), axf_uc (a := o + 27) (b := o + 25) (by omega), axf_uc (a := o + 23) (b := o + 25) (by omega), kp_step (a := o + 21) (by omega) h0 (g0 _ _ _ (by omega)) (g0 _ _ _ (by omega)), kp_step (by omega) h0 (g0 _ _ _ (by omega)) (g0 _ _ _ (by omega))]; exact ih (x + 1) B (by omega) (by omega) (by omega) hB)
            | (rw [kp_out (by omega) (by omega), kp_r2 (by omega), r2, axu_a (by omega), axu_a (by omega), kp_r2 (by omega), kp_out (by omega) (by omega), r4, axf_uc (a := o + 27) (b := o + 21) (by omega), axf_uc (a := o + 23) (b := o + 21) (by omega), axf_uc (a := o + 27) (b := o + 25) (by omega), axf_uc (a := o + 23) (b := o + 25) (by omega), kp_step (a := o + 21) (by omega) h0 (g1 _ _ _ (by omega)) (g1 _ _ _ (by omega)), kp_step (by omega) h0 (g1 _ _ _ (by omega)) (g1 _ _ _ (by omega))]; exact ih (x + 1) B (by omega) (by omega) (by omega) hB)
            | (exfalso; omega)
        · refine x_aload_n (pc := 120) hC dX12_keeps_120 rfl ?_
          refine x_getO (pc := 121) hC gf_X12_82 dX12_keeps_121 M.1 (mo_keptKnownSize M).1 ?_
          refine x_iload_n (pc := 124) hC dX12_keeps_124 rfl ?_
          refine x_iald (pc := 125) hC dX12_keeps_125 (mo_keptKnownSize M).2.1 (by omega) (by rw [(mo_keptKnownSize M).2.2]; omega) ?_
          refine x_goto (pc := 126) hC 135 dX12_keeps_126 (by decide) ?_
          refine x_iast (pc := 135) hC dX12_keeps_135 (mo_knownSize M).2.1 (by omega) (by rw [(mo_knownSize M).2.2]; omega) ?_
          refine x_aload_n (pc := 136) hC dX12_keeps_136 rfl ?_
          refine x_getO (pc := 137) hC gf_X12_82 dX12_keeps_137 M.1 (mo_keptKnownSize M).1 ?_
          refine x_iload_n (pc := 140) hC dX12_keeps_140 rfl ?_
          refine x_aload_n (pc := 141) hC dX12_keeps_141 rfl ?_
          refine x_getO (pc := 142) hC gf_X12_70 dX12_keeps_142 M.1 (mo_knownSize M).1 ?_
          refine x_iload_n (pc := 145) hC dX12_keeps_145 rfl ?_
          refine x_iald (pc := 146) hC dX12_keeps_146 (mo_knownSize M).2.1 (by omega) (by rw [(mo_knownSize M).2.2]; omega) ?_
          refine x_iast (pc := 147) hC dX12_keeps_147 (mo_keptKnownSize M).2.1 (by omega) (by rw [(mo_keptKnownSize M).2.2]; omega) ?_
          refine x_aload_n (pc := 148) hC dX12_keeps_148 rfl ?_
          refine x_getO (pc := 149) hC gf_X12_76 dX12_keeps_149 M.1 (mo_rowSize M).1 ?_
          refine x_iload_n (pc := 152) hC dX12_keeps_152 rfl ?_
          refine x_iload_n (pc := 153) hC dX12_keeps_153 rfl ?_
          refine x_if_eq (pc := 154) hC 166 dX12_keeps_154 (by decide) (by omega) (fun b154 => ?_) (fun b154 => ?_)
          · refine x_aload_n (pc := 166) hC dX12_keeps_166 rfl ?_
            refine x_getO (pc := 167) hC gf_X12_76 dX12_keeps_167 M.1 (mo_rowSize M).1 ?_
            refine x_iload_n (pc := 170) hC dX12_keeps_170 rfl ?_
            refine x_iald (pc := 171) hC dX12_keeps_171 (mo_rowSize M).2.1 (by omega) (by rw [(mo_rowSize M).2.2]; omega) ?_
            refine x_iast (pc := 172) hC dX12_keeps_172 (mo_rowSize M).2.1 (by omega) (by rw [(mo_rowSize M).2.2]; omega) ?_
            refine x_aload_n (pc := 173) hC dX12_keeps_173 rfl ?_
            refine x_getO (pc := 174) hC gf_X12_88 dX12_keeps_174 M.1 (mo_keptRowSize M).1 ?_
            refine x_iload_n (pc := 177) hC dX12_keeps_177 rfl ?_
            refine x_aload_n (pc := 178) hC dX12_keeps_178 rfl ?_
            refine x_getO (pc := 179) hC gf_X12_76 dX12_keeps_179 M.1 (mo_rowSize M).1 ?_
            refine x_iload_n (pc := 182) hC dX12_keeps_182 rfl ?_
            refine x_iald (pc := 183) hC dX12_keeps_183 (mo_rowSize M).2.1 (by omega) (by rw [(mo_rowSize M).2.2]; omega) ?_
            refine x_iast (pc := 184) hC dX12_keeps_184 (mo_keptRowSize M).2.1 (by omega) (by rw [(mo_keptRowSize M).2.2]; omega) ?_
            refine x_iinc (pc := 185) hC dX12_keeps_185 rfl ?_
            dsimp only [List.set]
            refine x_goto (pc := 188) hC 105 dX12_keeps_188 (by decide) ?_
            rw [axu_s, axu_s]
            first
            | (rw [kp_out (by omega) (by omega), kp_r1 (by omega), r1, axu_a (by omega), axu_a (by omega), kp_r1 (by omega), kp_out (by omega) (by omega), r3, axf_uc (a := o + 27) (b := o + 21) (by omega), axf_uc (a := o + 23) (b := o + 21) (by omega), axf_uc (a := o + 27) (b := o + 25) (by omega), axf_uc (a := o + 23) (b := o + 25) (by omega), kp_step (a := o + 21) (by omega) h0 (g0 _ _ _ (by omega)) (g0 _ _ _ (by omega)), kp_step (by omega) h0 (g0 _ _ _ (by omega)) (g0 _ _ _ (by omega))]; exact ih (x + 1) B (by omega) (by omega) (by omega) hB)
            | (rw [kp_out (by omega) (by omega), kp_r2 (by omega), r2, axu_a (by omega), axu_a (by omega), kp_r2 (by omega), kp_out (by omega) (by omega), r4, axf_uc (a := o + 27) (b := o + 21) (by omega), axf_uc (a := o + 23) (b := o + 21) (by omega), axf_uc (a := o + 27) (b := o + 25) (by omega), axf_uc (a := o + 23) (b := o + 25) (by omega), kp_step (a := o + 21) (by omega) h0 (g1 _ _ _ (by omega)) (g1 _ _ _ (by omega)), kp_step (by omega) h0 (g1 _ _ _ (by omega)) (g1 _ _ _ (by omega))]; exact ih (x + 1) B (by omega) (by omega) (by omega) hB)
            | (exfalso; omega)
          · refine x_aload_n (pc := 157) hC dX12_keeps_157 rfl ?_
            refine x_getO (pc := 158) hC gf_X12_88 dX12_keeps_158 M.1 (mo_keptRowSize M).1 ?_
            refine x_iload_n (pc := 161) hC dX12_keeps_161 rfl ?_
            refine x_iald (pc := 162) hC dX12_keeps_162 (mo_keptRowSize M).2.1 (by omega) (by rw [(mo_keptRowSize M).2.2]; omega) ?_
            refine x_goto (pc := 163) hC 172 dX12_keeps_163 (by decide) ?_
            refine x_iast (pc := 172) hC dX12_keeps_172 (mo_rowSize M).2.1 (by omega) (by rw [(mo_rowSize M).2.2]; omega) ?_
            refine x_aload_n (pc := 173) hC dX12_keeps_173 rfl ?_
            refine x_getO (pc := 174) hC gf_X12_88 dX12_keeps_174 M.1 (mo_keptRowSize M).1 ?_
            refine x_iload_n (pc := 177) hC dX12_keeps_177 rfl ?_
            refine x_aload_n (pc := 178) hC dX12_keeps_178 rfl ?_
            refine x_getO (pc := 179) hC gf_X12_76 dX12_keeps_179 M.1 (mo_rowSize M).1 ?_
            refine x_iload_n (pc := 182) hC dX12_keeps_182 rfl ?_
            refine x_iald (pc := 183) hC dX12_keeps_183 (mo_rowSize M).2.1 (by omega) (by rw [(mo_rowSize M).2.2]; omega) ?_
            refine x_iast (pc := 184) hC dX12_keeps_184 (mo_keptRowSize M).2.1 (by omega) (by rw [(mo_keptRowSize M).2.2]; omega) ?_
            refine x_iinc (pc := 185) hC dX12_keeps_185 rfl ?_
            dsimp only [List.set]
            refine x_goto (pc := 188) hC 105 dX12_keeps_188 (by decide) ?_
            rw [axu_s, axu_s]
            first
            | (rw [kp_out (by omega) (by omega), kp_r1 (by omega), r1, axu_a (by omega), axu_a (by omega), kp_r1 (by omega), kp_out (by omega) (by omega), r3, axf_uc (a := o + 27) (b := o + 21) (by omega), axf_uc (a := o + 23) (b := o + 21) (by omega), axf_uc (a := o + 27) (b := o + 25) (by omega), axf_uc (a := o + 23) (b := o + 25) (by omega), kp_step (a := o + 21) (by omega) h0 (g0 _ _ _ (by omega)) (g0 _ _ _ (by omega)), kp_step (by omega) h0 (g0 _ _ _ (by omega)) (g0 _ _ _ (by omega))]; exact ih (x + 1) B (by omega) (by omega) (by omega) hB)
            | (rw [kp_out (by omega) (by omega), kp_r2 (by omega), r2, axu_a (by omega), axu_a (by omega), kp_r2 (by omega), kp_out (by omega) (by omega), r4, axf_uc (a := o + 27) (b := o + 21) (by omega), axf_uc (a := o + 23) (b := o + 21) (by omega), axf_uc (a := o + 27) (b := o + 25) (by omega), axf_uc (a := o + 23) (b := o + 25) (by omega), kp_step (a := o + 21) (by omega) h0 (g1 _ _ _ (by omega)) (g1 _ _ _ (by omega)), kp_step (by omega) h0 (g1 _ _ _ (by omega)) (g1 _ _ _ (by omega))]; exact ih (x + 1) B (by omega) (by omega) (by omega) hB)
            | (exfalso; omega)
  have l2 : ∀ (n : Nat) (x : Int) (B : Nat → Int → Int), (48 - x).toNat ≤ n → 0 ≤ x → x ≤ 48 → B = (ax_f (ax_f I (o + 20) 0 (408) (kpG I b (o + 20) (o + 24))) (o + 24) 0 (408) (kpG I b (o + 20) (o + 24))) → axX G f 0 0 (fun r1 T1 N1 I1 R1 z1 => r1 = none ∧ T1 = T ∧ N1 = N ∧ I1 = (kpI I o b) ∧ R1 = R ∧ z1 = z) 54 [vR o, vI b, vI x] [] T N (ax_f (ax_f B (o + 22) 0 (x) (kpG I b (o + 22) (o + 26))) (o + 26) 0 (x) (kpG I b (o + 22) (o + 26))) R z 0 0 := by
    intro n
    induction n with
    | zero =>
      intro x B hn h0 h1 hB
      have hx : x = 48 := by omega
      refine x_iload_n (pc := 54) hC dX12_keeps_54 rfl ?_
      refine x_bipush (pc := 55) hC dX12_keeps_55 (by decide) ?_
      refine x_icmp_ge (pc := 57) hC 103 dX12_keeps_57 (by decide) (by omega) (by omega) (fun b57 => ?_) (fun b57 => ?_)
      · refine x_iconst (pc := 103) hC dX12_keeps_103 ?_
        refine x_istore_n (pc := 104) hC dX12_keeps_104 (Nat.le_of_ble_eq_true rfl) ?_
        dsimp only [List.set]
        have hx : x = 48 := by omega
        have := l3 _ 0 _ (Nat.le_refl _) (by omega) (by omega) rfl
        rw [axf_0, axf_0, axf_0, axf_0] at this
        rw [hx, hB]
        exact this
      · omega
    | succ n ih =>
      intro x B hn h0 h1 hB
      have r1 : B (o + 22) = I (o + 22) := by rw [hB, kp_out (by omega) (by omega)]
      have r2 : B (o + 26) = I (o + 26) := by rw [hB, kp_out (by omega) (by omega)]
      refine x_iload_n (pc := 54) hC dX12_keeps_54 rfl ?_
      refine x_bipush (pc := 55) hC dX12_keeps_55 (by decide) ?_
      refine x_icmp_ge (pc := 57) hC 103 dX12_keeps_57 (by decide) (by omega) (by omega) (fun b57 => ?_) (fun b57 => ?_)
      · refine x_iconst (pc := 103) hC dX12_keeps_103 ?_
        refine x_istore_n (pc := 104) hC dX12_keeps_104 (Nat.le_of_ble_eq_true rfl) ?_
        dsimp only [List.set]
        have hx : x = 48 := by omega
        have := l3 _ 0 _ (Nat.le_refl _) (by omega) (by omega) rfl
        rw [axf_0, axf_0, axf_0, axf_0] at this
        rw [hx, hB]
        exact this
      · refine x_aload_n (pc := 60) hC dX12_keeps_60 rfl ?_
        refine x_getO (pc := 61) hC gf_X12_73 dX12_keeps_61 M.1 (mo_rowOf M).1 ?_
        refine x_iload_n (pc := 64) hC dX12_keeps_64 rfl ?_
        refine x_iload_n (pc := 65) hC dX12_keeps_65 rfl ?_
        refine x_if_eq (pc := 66) hC 78 dX12_keeps_66 (by decide) (by omega) (fun b66 => ?_) (fun b66 => ?_)
        · refine x_aload_n (pc := 78) hC dX12_keeps_78 rfl ?_
          refine x_getO (pc := 79) hC gf_X12_73 dX12_keeps_79 M.1 (mo_rowOf M).1 ?_
          refine x_iload_n (pc := 82) hC dX12_keeps_82 rfl ?_
          refine x_iald (pc := 83) hC dX12_keeps_83 (mo_rowOf M).2.1 (by omega) (by rw [(mo_rowOf M).2.2]; omega) ?_
          refine x_iast (pc := 84) hC dX12_keeps_84 (mo_rowOf M).2.1 (by omega) (by rw [(mo_rowOf M).2.2]; omega) ?_
          refine x_aload_n (pc := 85) hC dX12_keeps_85 rfl ?_
          refine x_getO (pc := 86) hC gf_X12_85 dX12_keeps_86 M.1 (mo_keptRow M).1 ?_
          refine x_iload_n (pc := 89) hC dX12_keeps_89 rfl ?_
          refine x_aload_n (pc := 90) hC dX12_keeps_90 rfl ?_
          refine x_getO (pc := 91) hC gf_X12_73 dX12_keeps_91 M.1 (mo_rowOf M).1 ?_
          refine x_iload_n (pc := 94) hC dX12_keeps_94 rfl ?_
          refine x_iald (pc := 95) hC dX12_keeps_95 (mo_rowOf M).2.1 (by omega) (by rw [(mo_rowOf M).2.2]; omega) ?_
          refine x_iast (pc := 96) hC dX12_keeps_96 (mo_keptRow M).2.1 (by omega) (by rw [(mo_keptRow M).2.2]; omega) ?_
          refine x_iinc (pc := 97) hC dX12_keeps_97 rfl ?_
          dsimp only [List.set]
          refine x_goto (pc := 100) hC 54 dX12_keeps_100 (by decide) ?_
          rw [axu_s]
          first
          | (rw [kp_r1 (by omega), r1, kp_step (by omega) h0 (g0 _ _ _ (by omega)) (g0 _ _ _ (by omega))]; exact ih (x + 1) B (by omega) (by omega) (by omega) hB)
          | (rw [kp_r2 (by omega), r2, kp_step (by omega) h0 (g1 _ _ _ (by omega)) (g1 _ _ _ (by omega))]; exact ih (x + 1) B (by omega) (by omega) (by omega) hB)
        · refine x_aload_n (pc := 69) hC dX12_keeps_69 rfl ?_
          refine x_getO (pc := 70) hC gf_X12_85 dX12_keeps_70 M.1 (mo_keptRow M).1 ?_
          refine x_iload_n (pc := 73) hC dX12_keeps_73 rfl ?_
          refine x_iald (pc := 74) hC dX12_keeps_74 (mo_keptRow M).2.1 (by omega) (by rw [(mo_keptRow M).2.2]; omega) ?_
          refine x_goto (pc := 75) hC 84 dX12_keeps_75 (by decide) ?_
          refine x_iast (pc := 84) hC dX12_keeps_84 (mo_rowOf M).2.1 (by omega) (by rw [(mo_rowOf M).2.2]; omega) ?_
          refine x_aload_n (pc := 85) hC dX12_keeps_85 rfl ?_
          refine x_getO (pc := 86) hC gf_X12_85 dX12_keeps_86 M.1 (mo_keptRow M).1 ?_
          refine x_iload_n (pc := 89) hC dX12_keeps_89 rfl ?_
          refine x_aload_n (pc := 90) hC dX12_keeps_90 rfl ?_
          refine x_getO (pc := 91) hC gf_X12_73 dX12_keeps_91 M.1 (mo_rowOf M).1 ?_
          refine x_iload_n (pc := 94) hC dX12_keeps_94 rfl ?_
          refine x_iald (pc := 95) hC dX12_keeps_95 (mo_rowOf M).2.1 (by omega) (by rw [(mo_rowOf M).2.2]; omega) ?_
          refine x_iast (pc := 96) hC dX12_keeps_96 (mo_keptRow M).2.1 (by omega) (by rw [(mo_keptRow M).2.2]; omega) ?_
          refine x_iinc (pc := 97) hC dX12_keeps_97 rfl ?_
          dsimp only [List.set]
          refine x_goto (pc := 100) hC 54 dX12_keeps_100 (by decide) ?_
          rw [axu_s]
          first
          | (rw [kp_r1 (by omega), r1, kp_step (by omega) h0 (g0 _ _ _ (by omega)) (g0 _ _ _ (by omega))]; exact ih (x + 1) B (by omega) (by omega) (by omega) hB)
          | (rw [kp_r2 (by omega), r2, kp_step (by omega) h0 (g1 _ _ _ (by omega)) (g1 _ _ _ (by omega))]; exact ih (x + 1) B (by omega) (by omega) (by omega) hB)
  have l1 : ∀ (n : Nat) (x : Int) (B : Nat → Int → Int), (408 - x).toNat ≤ n → 0 ≤ x → x ≤ 408 → B = I → axX G f 0 0 (fun r1 T1 N1 I1 R1 z1 => r1 = none ∧ T1 = T ∧ N1 = N ∧ I1 = (kpI I o b) ∧ R1 = R ∧ z1 = z) 2 [vR o, vI b, vI x] [] T N (ax_f (ax_f B (o + 20) 0 (x) (kpG I b (o + 20) (o + 24))) (o + 24) 0 (x) (kpG I b (o + 20) (o + 24))) R z 0 0 := by
    intro n
    induction n with
    | zero =>
      intro x B hn h0 h1 hB
      have hx : x = 408 := by omega
      refine x_iload_n (pc := 2) hC dX12_keeps_2 rfl ?_
      refine x_sipush (pc := 3) hC dX12_keeps_3 (by decide) ?_
      refine x_icmp_ge (pc := 6) hC 52 dX12_keeps_6 (by decide) (by omega) (by omega) (fun b6 => ?_) (fun b6 => ?_)
      · refine x_iconst (pc := 52) hC dX12_keeps_52 ?_
        refine x_istore_n (pc := 53) hC dX12_keeps_53 (Nat.le_of_ble_eq_true rfl) ?_
        dsimp only [List.set]
        have hx : x = 408 := by omega
        have := l2 _ 0 _ (Nat.le_refl _) (by omega) (by omega) rfl
        rw [axf_0, axf_0] at this
        rw [hx, hB]
        exact this
      · omega
    | succ n ih =>
      intro x B hn h0 h1 hB
      have r1 : B (o + 20) = I (o + 20) := by rw [hB]
      have r2 : B (o + 24) = I (o + 24) := by rw [hB]
      refine x_iload_n (pc := 2) hC dX12_keeps_2 rfl ?_
      refine x_sipush (pc := 3) hC dX12_keeps_3 (by decide) ?_
      refine x_icmp_ge (pc := 6) hC 52 dX12_keeps_6 (by decide) (by omega) (by omega) (fun b6 => ?_) (fun b6 => ?_)
      · refine x_iconst (pc := 52) hC dX12_keeps_52 ?_
        refine x_istore_n (pc := 53) hC dX12_keeps_53 (Nat.le_of_ble_eq_true rfl) ?_
        dsimp only [List.set]
        have hx : x = 408 := by omega
        have := l2 _ 0 _ (Nat.le_refl _) (by omega) (by omega) rfl
        rw [axf_0, axf_0] at this
        rw [hx, hB]
        exact this
      · refine x_aload_n (pc := 9) hC dX12_keeps_9 rfl ?_
        refine x_getO (pc := 10) hC gf_X12_67 dX12_keeps_10 M.1 (mo_known M).1 ?_
        refine x_iload_n (pc := 13) hC dX12_keeps_13 rfl ?_
        refine x_iload_n (pc := 14) hC dX12_keeps_14 rfl ?_
        refine x_if_eq (pc := 15) hC 27 dX12_keeps_15 (by decide) (by omega) (fun b15 => ?_) (fun b15 => ?_)
        · refine x_aload_n (pc := 27) hC dX12_keeps_27 rfl ?_
          refine x_getO (pc := 28) hC gf_X12_67 dX12_keeps_28 M.1 (mo_known M).1 ?_
          refine x_iload_n (pc := 31) hC dX12_keeps_31 rfl ?_
          refine x_iald (pc := 32) hC dX12_keeps_32 (mo_known M).2.1 (by omega) (by rw [(mo_known M).2.2]; omega) ?_
          refine x_iast (pc := 33) hC dX12_keeps_33 (mo_known M).2.1 (by omega) (by rw [(mo_known M).2.2]; omega) ?_
          refine x_aload_n (pc := 34) hC dX12_keeps_34 rfl ?_
          refine x_getO (pc := 35) hC gf_X12_79 dX12_keeps_35 M.1 (mo_keptKnown M).1 ?_
          refine x_iload_n (pc := 38) hC dX12_keeps_38 rfl ?_
          refine x_aload_n (pc := 39) hC dX12_keeps_39 rfl ?_
          refine x_getO (pc := 40) hC gf_X12_67 dX12_keeps_40 M.1 (mo_known M).1 ?_
          refine x_iload_n (pc := 43) hC dX12_keeps_43 rfl ?_
          refine x_iald (pc := 44) hC dX12_keeps_44 (mo_known M).2.1 (by omega) (by rw [(mo_known M).2.2]; omega) ?_
          refine x_iast (pc := 45) hC dX12_keeps_45 (mo_keptKnown M).2.1 (by omega) (by rw [(mo_keptKnown M).2.2]; omega) ?_
          refine x_iinc (pc := 46) hC dX12_keeps_46 rfl ?_
          dsimp only [List.set]
          refine x_goto (pc := 49) hC 2 dX12_keeps_49 (by decide) ?_
          rw [axu_s]
          first
          | (rw [kp_r1 (by omega), r1, kp_step (by omega) h0 (g0 _ _ _ (by omega)) (g0 _ _ _ (by omega))]; exact ih (x + 1) B (by omega) (by omega) (by omega) hB)
          | (rw [kp_r2 (by omega), r2, kp_step (by omega) h0 (g1 _ _ _ (by omega)) (g1 _ _ _ (by omega))]; exact ih (x + 1) B (by omega) (by omega) (by omega) hB)
        · refine x_aload_n (pc := 18) hC dX12_keeps_18 rfl ?_
          refine x_getO (pc := 19) hC gf_X12_79 dX12_keeps_19 M.1 (mo_keptKnown M).1 ?_
          refine x_iload_n (pc := 22) hC dX12_keeps_22 rfl ?_
          refine x_iald (pc := 23) hC dX12_keeps_23 (mo_keptKnown M).2.1 (by omega) (by rw [(mo_keptKnown M).2.2]; omega) ?_
          refine x_goto (pc := 24) hC 33 dX12_keeps_24 (by decide) ?_
          refine x_iast (pc := 33) hC dX12_keeps_33 (mo_known M).2.1 (by omega) (by rw [(mo_known M).2.2]; omega) ?_
          refine x_aload_n (pc := 34) hC dX12_keeps_34 rfl ?_
          refine x_getO (pc := 35) hC gf_X12_79 dX12_keeps_35 M.1 (mo_keptKnown M).1 ?_
          refine x_iload_n (pc := 38) hC dX12_keeps_38 rfl ?_
          refine x_aload_n (pc := 39) hC dX12_keeps_39 rfl ?_
          refine x_getO (pc := 40) hC gf_X12_67 dX12_keeps_40 M.1 (mo_known M).1 ?_
          refine x_iload_n (pc := 43) hC dX12_keeps_43 rfl ?_
          refine x_iald (pc := 44) hC dX12_keeps_44 (mo_known M).2.1 (by omega) (by rw [(mo_known M).2.2]; omega) ?_
          refine x_iast (pc := 45) hC dX12_keeps_45 (mo_keptKnown M).2.1 (by omega) (by rw [(mo_keptKnown M).2.2]; omega) ?_
          refine x_iinc (pc := 46) hC dX12_keeps_46 rfl ?_
          dsimp only [List.set]
          refine x_goto (pc := 49) hC 2 dX12_keeps_49 (by decide) ?_
          rw [axu_s]
          first
          | (rw [kp_r1 (by omega), r1, kp_step (by omega) h0 (g0 _ _ _ (by omega)) (g0 _ _ _ (by omega))]; exact ih (x + 1) B (by omega) (by omega) (by omega) hB)
          | (rw [kp_r2 (by omega), r2, kp_step (by omega) h0 (g1 _ _ _ (by omega)) (g1 _ _ _ (by omega))]; exact ih (x + 1) B (by omega) (by omega) (by omega) hB)
  refine x_iconst (pc := 0) hC dX12_keeps_0 ?_
  refine x_istore_n (pc := 1) hC dX12_keeps_1 (Nat.le_of_ble_eq_true rfl) ?_
  dsimp only [List.set]
  have := l1 _ 0 I (Nat.le_refl _) (by omega) (by omega) rfl
  rw [axf_0, axf_0] at this
  exact this

