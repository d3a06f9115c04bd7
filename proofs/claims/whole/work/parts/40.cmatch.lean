/-! THE CLASS: matchings -/
def mtT (T : Nat → Nat) (N : Nat → Int) (R : Nat → Int → Option Nat) (m : Nat) : Prop := T m = 2 ∧ (R m 0 = some (m + 1) ∧ T (m + 1) = 13 ∧ N (m + 1) = 289) ∧ (R m 1 = some (m + 2) ∧ T (m + 2) = 13 ∧ N (m + 2) = 16) ∧ (R m 2 = some (m + 3) ∧ T (m + 3) = 14 ∧ N (m + 3) = 17) ∧ (R m 3 = some (m + 4) ∧ T (m + 4) = 14 ∧ N (m + 4) = 17) ∧ ∀ k : Nat, k < 17 → R (m + 3) k = some (m + 5 + 2 * k) ∧ T (m + 5 + 2 * k) = 4 ∧ R (m + 4) k = some (m + 6 + 2 * k) ∧ T (m + 6 + 2 * k) = 4
/-- an array of lines -/
def rwS (T : Nat → Nat) (N : Nat → Int) (I : Nat → Int → Int) (r : Nat) : Prop := T r = 13 ∧ (0 ≤ N r ∧ N r ≤ 16) ∧ ∀ j, 0 ≤ j → j < N r → 0 ≤ I r j ∧ I r j < 100
theorem fj_none {P : Int → Prop} [DecidablePred P] (h : ∀ j, ¬ P j) : ∀ (n : Nat) (j : Int), fj P n j = -9 := by
  intro n
  induction n with
  | zero => intro j; rfl
  | succ n ih => intro j; simp only [fj]; rw [if_neg (h j)]; exact ih (j + 1)

set_option maxHeartbeats 4000000 in
set_option maxRecDepth 100000 in
theorem c_fillMost {G : ax_G} {T : Nat → Nat} {N : Nat → Int} {I : Nat → Int → Int} {R : Nat → Int → Option Nat} {z : Nat} {m a b : Nat} {n k : Int} (hm : mtT T N R m) (ha : rwS T N I a) (hb : rwS T N I b) (hn : 0 ≤ n ∧ n ≤ N a) (hk : 0 ≤ k ∧ k ≤ N b) (ham : a ≠ m + 1) (hbm : b ≠ m + 1) : axEx G YX2_fillMost 1 [vR m, vR a, vI n, vR b, vI k] T N I R z (fun r1 I1 => r1 = none ∧ (∀ q, q ≠ m + 1 → I1 q = I q) ∧ ∀ i j : Int, 0 ≤ i → i ≤ n → 0 ≤ j → j ≤ k → I1 (m + 1) (17 * i + j) = lcv (I a) (I b) n k i j) := by

  refine ax_enter (by decide) (Nat.le_of_ble_eq_true rfl) (ax_cat rfl) (fun f hC => ?_)
  show axX G f 0 0 _ 0 [vR m, vR a, vI n, vR b, vI k, vU, vU, vU, vU] [] T N I R z 0 0
  have la := ha.2.1
  have lb := hb.2.1
  have lr : ∀ i j, 0 ≤ i → 0 ≤ lcv (I a) (I b) n k i j ∧ lcv (I a) (I b) n k i j ≤ 16 := fun i j h => lcv_r _ _ _ _ _ _ (by omega)
  have outer : ∀ (c : Nat) (x : Int) (J : Nat → Int → Int) (c6 c7 c8 : ax_V), (x + 1).toNat ≤ c → -1 ≤ x → x < n → (∀ q, q ≠ m + 1 → J q = I q) → (∀ i j : Int, x < i → i ≤ n → 0 ≤ j → j ≤ k → J (m + 1) (17 * i + j) = lcv (I a) (I b) n k i j) → axX G f 0 0 (fun r1 T1 N1 I1 R1 z1 => (r1 = none ∧ (∀ q, q ≠ m + 1 → I1 q = I q) ∧ ∀ i j : Int, 0 ≤ i → i ≤ n → 0 ≤ j → j ≤ k → I1 (m + 1) (17 * i + j) = lcv (I a) (I b) n k i j) ∧ T1 = T ∧ N1 = N ∧ R1 = R ∧ z1 = z) 34 [vR m, vR a, vI n, vR b, vI k, vI x, c6, c7, c8] [] T N J R z 0 0 := by
    intro c
    induction c with
    | zero =>
      intro x J c6 c7 c8 hc h0 h1 hJ hv
      refine x_iload (pc := 34) hC dX2_fillMost_34 rfl ?_
      refine x_if_lt (pc := 36) hC 150 dX2_fillMost_36 (by decide) (by omega) (fun b36 => ?_) (fun b36 => ?_)
      · refine x_vret (pc := 150) hC rfl dX2_fillMost_150 ?_
        exact ⟨⟨rfl, hJ, fun i j a1 a2 a3 a4 => hv i j (by omega) a2 a3 a4⟩, rfl, rfl, rfl, rfl⟩
      · omega
    | succ c ih =>
      intro x J c6 c7 c8 hc h0 h1 hJ hv
      have inner : 0 ≤ x → ∀ (c : Nat) (y : Int) (K : Nat → Int → Int), (y + 1).toNat ≤ c → -1 ≤ y → y < k → (∀ q, q ≠ m + 1 → K q = I q) → (∀ i j : Int, x < i → i ≤ n → 0 ≤ j → j ≤ k → K (m + 1) (17 * i + j) = lcv (I a) (I b) n k i j) → (∀ j : Int, y < j → j ≤ k → K (m + 1) (17 * x + j) = lcv (I a) (I b) n k x j) → axX G f 0 0 (fun r1 T1 N1 I1 R1 z1 => (r1 = none ∧ (∀ q, q ≠ m + 1 → I1 q = I q) ∧ ∀ i j : Int, 0 ≤ i → i ≤ n → 0 ≤ j → j ≤ k → I1 (m + 1) (17 * i + j) = lcv (I a) (I b) n k i j) ∧ T1 = T ∧ N1 = N ∧ R1 = R ∧ z1 = z) 70 [vR m, vR a, vI n, vR b, vI k, vI x, vI (x * 17), vI (x * 17 + 17), vI y] [] T N K R z 0 0 := by
        intro hx0 c
        induction c with
        | zero =>
          intro y K hc2 g0 g1 hK hv1 hv2
          refine x_iload (pc := 70) hC dX2_fillMost_70 rfl ?_
          refine x_if_lt (pc := 72) hC 144 dX2_fillMost_72 (by decide) (by omega) (fun b72 => ?_) (fun b72 => ?_)
          · refine x_iinc (pc := 144) hC dX2_fillMost_144 rfl ?_
            dsimp only [List.set]
            refine x_goto (pc := 147) hC 34 dX2_fillMost_147 (by decide) ?_
            refine ih (x + -1) K _ _ _ (by omega) (by omega) (by omega) hK (fun i j a1 a2 a3 a4 => ?_)
            by_cases hi : i = x
            · rw [hi]; exact hv2 j (by omega) a4
            · exact hv1 i j (by omega) a2 a3 a4
          · omega
        | succ c ih2 =>
          intro y K hc2 g0 g1 hK hv1 hv2
          have ra : 0 ≤ x → x < n → 0 ≤ K a x ∧ K a x < 100 := fun _ _ => by rw [hK a ham]; exact ha.2.2 x (by omega) (by omega)
          have rb : 0 ≤ y → 0 ≤ K b y ∧ K b y < 100 := fun _ => by rw [hK b hbm]; exact hb.2.2 y (by omega) (by omega)
          have ea : K a x = I a x := by rw [hK a ham]
          have eb : K b y = I b y := by rw [hK b hbm]
          have e1 : 0 ≤ y → K (m + 1) (x * 17 + 17 + y + 1) = lcv (I a) (I b) n k (x + 1) (y + 1) := fun _ => by
            rw [show x * 17 + 17 + y + 1 = 17 * (x + 1) + (y + 1) by omega]; exact hv1 _ _ (by omega) (by omega) (by omega) (by omega)
          have e2 : 0 ≤ y → K (m + 1) (x * 17 + 17 + y) = lcv (I a) (I b) n k (x + 1) y := fun _ => by
            rw [show x * 17 + 17 + y = 17 * (x + 1) + y by omega]; exact hv1 _ _ (by omega) (by omega) (by omega) (by omega)
          have e3 : 0 ≤ y → K (m + 1) (x * 17 + y + 1) = lcv (I a) (I b) n k x (y + 1) := fun _ => by
            rw [show x * 17 + y + 1 = 17 * x + (y + 1) by omega]; exact hv2 _ (by omega) (by omega)
          have step : ∀ v : Int, 0 ≤ y → v = lcv (I a) (I b) n k x y → axX G f 0 0 (fun r1 T1 N1 I1 R1 z1 => (r1 = none ∧ (∀ q, q ≠ m + 1 → I1 q = I q) ∧ ∀ i j : Int, 0 ≤ i → i ≤ n → 0 ≤ j → j ≤ k → I1 (m + 1) (17 * i + j) = lcv (I a) (I b) n k i j) ∧ T1 = T ∧ N1 = N ∧ R1 = R ∧ z1 = z) 70 [vR m, vR a, vI n, vR b, vI k, vI x, vI (x * 17), vI (x * 17 + 17), vI (y + -1)] [] T N (ax_u K (m + 1) (x * 17 + y) v) R z 0 0 := by
            intro v hy hv
            refine ih2 (y + -1) _ (by omega) (by omega) (by omega) (fun q hq => by rw [axu_row hq]; exact hK q hq) (fun i j a1 a2 a3 a4 => by rw [axu_j (by omega)]; exact hv1 i j a1 a2 a3 a4) (fun j a1 a2 => ?_)
            by_cases hj : j = y
            · rw [hj, show 17 * x + y = x * 17 + y by omega, axu_s]; exact hv
            · rw [axu_j (by omega)]; exact hv2 j (by omega) a2
          refine x_iload (pc := 70) hC dX2_fillMost_70 rfl ?_
          refine x_if_lt (pc := 72) hC 144 dX2_fillMost_72 (by decide) (by omega) (fun b72 => ?_) (fun b72 => ?_)
          · refine x_iinc (pc := 144) hC dX2_fillMost_144 rfl ?_
            dsimp only [List.set]
            refine x_goto (pc := 147) hC 34 dX2_fillMost_147 (by decide) ?_
            refine ih (x + -1) K _ _ _ (by omega) (by omega) (by omega) hK (fun i j a1 a2 a3 a4 => ?_)
            by_cases hi : i = x
            · rw [hi]; exact hv2 j (by omega) a4
            · exact hv1 i j (by omega) a2 a3 a4
          · refine x_aload_n (pc := 75) hC dX2_fillMost_75 rfl ?_
            refine x_getO (pc := 76) hC gf_X2_11 dX2_fillMost_76 hm.1 hm.2.1.1 ?_
            refine x_iload (pc := 79) hC dX2_fillMost_79 rfl ?_
            refine x_iload (pc := 81) hC dX2_fillMost_81 rfl ?_
            refine x_iadd (pc := 83) hC dX2_fillMost_83 ?_
            refine x_aload_n (pc := 84) hC dX2_fillMost_84 rfl ?_
            refine x_iload (pc := 85) hC dX2_fillMost_85 rfl ?_
            refine x_iald (pc := 87) hC dX2_fillMost_87 ha.1 (by omega) (by omega) ?_
            refine x_aload_n (pc := 88) hC dX2_fillMost_88 rfl ?_
            refine x_iload (pc := 89) hC dX2_fillMost_89 rfl ?_
            refine x_iald (pc := 91) hC dX2_fillMost_91 hb.1 (by omega) (by omega) ?_
            have q1 := ra (by omega) (by omega)
            have q2 := rb (by omega)
            refine x_icmp_ne (pc := 92) hC 112 dX2_fillMost_92 (by decide) (by omega) (by omega) (fun b92 => ?_) (fun b92 => ?_)
            · refine x_aload_n (pc := 112) hC dX2_fillMost_112 rfl ?_
              refine x_getO (pc := 113) hC gf_X2_11 dX2_fillMost_113 hm.1 hm.2.1.1 ?_
              refine x_iload (pc := 116) hC dX2_fillMost_116 rfl ?_
              refine x_iload (pc := 118) hC dX2_fillMost_118 rfl ?_
              refine x_iadd (pc := 120) hC dX2_fillMost_120 ?_
              refine x_iald (pc := 121) hC dX2_fillMost_121 hm.2.1.2.1 (by omega) (by rw [hm.2.1.2.2]; omega) ?_
              refine x_aload_n (pc := 122) hC dX2_fillMost_122 rfl ?_
              refine x_getO (pc := 123) hC gf_X2_11 dX2_fillMost_123 hm.1 hm.2.1.1 ?_
              refine x_iload (pc := 126) hC dX2_fillMost_126 rfl ?_
              refine x_iload (pc := 128) hC dX2_fillMost_128 rfl ?_
              refine x_iadd (pc := 130) hC dX2_fillMost_130 ?_
              refine x_iconst (pc := 131) hC dX2_fillMost_131 ?_
              refine x_iadd (pc := 132) hC dX2_fillMost_132 ?_
              refine x_iald (pc := 133) hC dX2_fillMost_133 hm.2.1.2.1 (by omega) (by rw [hm.2.1.2.2]; omega) ?_
              rw [e2 (by omega), e3 (by omega)]
              have q3 := lr (x + 1) y (by omega)
              have q4 := lr x (y + 1) (by omega)
              refine x_mmax (pc := 134) hC cs_X2_38 dX2_fillMost_134 (by omega) (by omega) (by decide) rfl (Nat.le_of_ble_eq_true rfl) ?_
              refine x_iast (pc := 137) hC dX2_fillMost_137 hm.2.1.2.1 (by omega) (by rw [hm.2.1.2.2]; omega) ?_
              refine x_iinc (pc := 138) hC dX2_fillMost_138 rfl ?_
              dsimp only [List.set]
              refine x_goto (pc := 141) hC 70 dX2_fillMost_141 (by decide) ?_
              first
              | exact step _ (by omega) (by rw [lcv_eq (i := x) (j := y) (by omega) (by omega), if_pos (by rw [← ea, ← eb]; assumption)])
              | exact step _ (by omega) (by rw [lcv_eq (i := x) (j := y) (by omega) (by omega), if_neg (by rw [← ea, ← eb]; assumption)])
            · refine x_aload_n (pc := 95) hC dX2_fillMost_95 rfl ?_
              refine x_getO (pc := 96) hC gf_X2_11 dX2_fillMost_96 hm.1 hm.2.1.1 ?_
              refine x_iload (pc := 99) hC dX2_fillMost_99 rfl ?_
              refine x_iload (pc := 101) hC dX2_fillMost_101 rfl ?_
              refine x_iadd (pc := 103) hC dX2_fillMost_103 ?_
              refine x_iconst (pc := 104) hC dX2_fillMost_104 ?_
              refine x_iadd (pc := 105) hC dX2_fillMost_105 ?_
              skip
              refine x_iald (pc := 106) hC dX2_fillMost_106 hm.2.1.2.1 (by omega) (by rw [hm.2.1.2.2]; omega) ?_
              rw [e1 (by omega)]
              refine x_iconst (pc := 107) hC dX2_fillMost_107 ?_
              refine x_iadd (pc := 108) hC dX2_fillMost_108 ?_
              refine x_goto (pc := 109) hC 137 dX2_fillMost_109 (by decide) ?_
              refine x_iast (pc := 137) hC dX2_fillMost_137 hm.2.1.2.1 (by omega) (by rw [hm.2.1.2.2]; omega) ?_
              refine x_iinc (pc := 138) hC dX2_fillMost_138 rfl ?_
              dsimp only [List.set]
              refine x_goto (pc := 141) hC 70 dX2_fillMost_141 (by decide) ?_
              first
              | exact step _ (by omega) (by rw [lcv_eq (i := x) (j := y) (by omega) (by omega), if_pos (by rw [← ea, ← eb]; assumption)])
              | exact step _ (by omega) (by rw [lcv_eq (i := x) (j := y) (by omega) (by omega), if_neg (by rw [← ea, ← eb]; assumption)])
      refine x_iload (pc := 34) hC dX2_fillMost_34 rfl ?_
      refine x_if_lt (pc := 36) hC 150 dX2_fillMost_36 (by decide) (by omega) (fun b36 => ?_) (fun b36 => ?_)
      · refine x_vret (pc := 150) hC rfl dX2_fillMost_150 ?_
        exact ⟨⟨rfl, hJ, fun i j a1 a2 a3 a4 => hv i j (by omega) a2 a3 a4⟩, rfl, rfl, rfl, rfl⟩
      · refine x_iload (pc := 39) hC dX2_fillMost_39 rfl ?_
        refine x_bipush (pc := 41) hC dX2_fillMost_41 (by decide) ?_
        refine x_imul (pc := 43) hC dX2_fillMost_43 ?_
        refine x_istore (pc := 44) hC dX2_fillMost_44 (Nat.le_of_ble_eq_true rfl) ?_
        dsimp only [List.set]
        refine x_iload (pc := 46) hC dX2_fillMost_46 rfl ?_
        refine x_bipush (pc := 48) hC dX2_fillMost_48 (by decide) ?_
        refine x_iadd (pc := 50) hC dX2_fillMost_50 ?_
        refine x_istore (pc := 51) hC dX2_fillMost_51 (Nat.le_of_ble_eq_true rfl) ?_
        dsimp only [List.set]
        refine x_aload_n (pc := 53) hC dX2_fillMost_53 rfl ?_
        refine x_getO (pc := 54) hC gf_X2_11 dX2_fillMost_54 hm.1 hm.2.1.1 ?_
        refine x_iload (pc := 57) hC dX2_fillMost_57 rfl ?_
        refine x_iload (pc := 59) hC dX2_fillMost_59 rfl ?_
        refine x_iadd (pc := 61) hC dX2_fillMost_61 ?_
        refine x_iconst (pc := 62) hC dX2_fillMost_62 ?_
        refine x_iast (pc := 63) hC dX2_fillMost_63 hm.2.1.2.1 (by omega) (by rw [hm.2.1.2.2]; omega) ?_
        refine x_iload (pc := 64) hC dX2_fillMost_64 rfl ?_
        refine x_iconst (pc := 66) hC dX2_fillMost_66 ?_
        refine x_isub (pc := 67) hC dX2_fillMost_67 ?_
        refine x_istore (pc := 68) hC dX2_fillMost_68 (Nat.le_of_ble_eq_true rfl) ?_
        dsimp only [List.set]
        refine inner (by omega) _ (k - 1) _ (Nat.le_refl _) (by omega) (by omega) (fun q hq => by rw [axu_row hq]; exact hJ q hq) (fun i j a1 a2 a3 a4 => by rw [axu_j (by omega)]; exact hv i j a1 a2 a3 a4) (fun j a1 a2 => ?_)
        have : j = k := by omega
        rw [this, show 17 * x + k = x * 17 + k by omega, axu_s, lcv_b (by omega)]
  have init : ∀ (c : Nat) (y : Int) (J : Nat → Int → Int), (k + 1 - y).toNat ≤ c → 0 ≤ y → y ≤ k + 1 → (∀ q, q ≠ m + 1 → J q = I q) → (∀ j : Int, 0 ≤ j → j < y → J (m + 1) (17 * n + j) = 0) → axX G f 0 0 (fun r1 T1 N1 I1 R1 z1 => (r1 = none ∧ (∀ q, q ≠ m + 1 → I1 q = I q) ∧ ∀ i j : Int, 0 ≤ i → i ≤ n → 0 ≤ j → j ≤ k → I1 (m + 1) (17 * i + j) = lcv (I a) (I b) n k i j) ∧ T1 = T ∧ N1 = N ∧ R1 = R ∧ z1 = z) 3 [vR m, vR a, vI n, vR b, vI k, vI y, vU, vU, vU] [] T N J R z 0 0 := by
    intro c
    have go : ∀ (J : Nat → Int → Int) (y : Int), y = k + 1 → (∀ q, q ≠ m + 1 → J q = I q) → (∀ j : Int, 0 ≤ j → j < y → J (m + 1) (17 * n + j) = 0) → axX G f 0 0 (fun r1 T1 N1 I1 R1 z1 => (r1 = none ∧ (∀ q, q ≠ m + 1 → I1 q = I q) ∧ ∀ i j : Int, 0 ≤ i → i ≤ n → 0 ≤ j → j ≤ k → I1 (m + 1) (17 * i + j) = lcv (I a) (I b) n k i j) ∧ T1 = T ∧ N1 = N ∧ R1 = R ∧ z1 = z) 34 [vR m, vR a, vI n, vR b, vI k, vI (n - 1), vU, vU, vU] [] T N J R z 0 0 := fun J y hy hJ hv =>
      outer _ (n - 1) J _ _ _ (Nat.le_refl _) (by omega) (by omega) hJ (fun i j a1 a2 a3 a4 => by
        have : i = n := by omega
        subst this
        rw [hv j a3 (by omega), lcv_a (by omega)])
    induction c with
    | zero =>
      intro y J hc h0 h1 hJ hv
      refine x_iload (pc := 3) hC dX2_fillMost_3 rfl ?_
      refine x_iload (pc := 5) hC dX2_fillMost_5 rfl ?_
      refine x_icmp_gt (pc := 7) hC 29 dX2_fillMost_7 (by decide) (by omega) (by omega) (fun b7 => ?_) (fun b7 => ?_)
      · refine x_iload_n (pc := 29) hC dX2_fillMost_29 rfl ?_
        refine x_iconst (pc := 30) hC dX2_fillMost_30 ?_
        refine x_isub (pc := 31) hC dX2_fillMost_31 ?_
        refine x_istore (pc := 32) hC dX2_fillMost_32 (Nat.le_of_ble_eq_true rfl) ?_
        dsimp only [List.set]
        exact go J y (by omega) hJ hv
      · omega
    | succ c ih =>
      intro y J hc h0 h1 hJ hv
      refine x_iload (pc := 3) hC dX2_fillMost_3 rfl ?_
      refine x_iload (pc := 5) hC dX2_fillMost_5 rfl ?_
      refine x_icmp_gt (pc := 7) hC 29 dX2_fillMost_7 (by decide) (by omega) (by omega) (fun b7 => ?_) (fun b7 => ?_)
      · refine x_iload_n (pc := 29) hC dX2_fillMost_29 rfl ?_
        refine x_iconst (pc := 30) hC dX2_fillMost_30 ?_
        refine x_isub (pc := 31) hC dX2_fillMost_31 ?_
        refine x_istore (pc := 32) hC dX2_fillMost_32 (Nat.le_of_ble_eq_true rfl) ?_
        dsimp only [List.set]
        exact go J y (by omega) hJ hv
      · refine x_aload_n (pc := 10) hC dX2_fillMost_10 rfl ?_
        refine x_getO (pc := 11) hC gf_X2_11 dX2_fillMost_11 hm.1 hm.2.1.1 ?_
        refine x_iload_n (pc := 14) hC dX2_fillMost_14 rfl ?_
        refine x_bipush (pc := 15) hC dX2_fillMost_15 (by decide) ?_
        refine x_imul (pc := 17) hC dX2_fillMost_17 ?_
        refine x_iload (pc := 18) hC dX2_fillMost_18 rfl ?_
        refine x_iadd (pc := 20) hC dX2_fillMost_20 ?_
        refine x_iconst (pc := 21) hC dX2_fillMost_21 ?_
        refine x_iast (pc := 22) hC dX2_fillMost_22 hm.2.1.2.1 (by omega) (by rw [hm.2.1.2.2]; omega) ?_
        refine x_iinc (pc := 23) hC dX2_fillMost_23 rfl ?_
        dsimp only [List.set]
        refine x_goto (pc := 26) hC 3 dX2_fillMost_26 (by decide) ?_
        refine ih (y + 1) _ (by omega) (by omega) (by omega) (fun q hq => by rw [axu_row hq]; exact hJ q hq) (fun j a1 a2 => ?_)
        by_cases hj : j = y
        · rw [hj, show 17 * n + y = n * 17 + y by omega, axu_s]
        · rw [axu_j (by omega)]; exact hv j a1 (by omega)
  refine x_iconst (pc := 0) hC dX2_fillMost_0 ?_
  refine x_istore (pc := 1) hC dX2_fillMost_1 (Nat.le_of_ble_eq_true rfl) ?_
  dsimp only [List.set]
  exact init _ 0 I (Nat.le_refl _) (by omega) (by omega) (fun q _ => rfl) (fun j a1 a2 => by omega)

set_option maxHeartbeats 4000000 in
set_option maxRecDepth 100000 in
theorem c_match {G : ax_G} {T : Nat → Nat} {N : Nat → Int} {I : Nat → Int → Int} {R : Nat → Int → Option Nat} {z : Nat} {m a b : Nat} (hm : mtT T N R m) (ha : rwS T N I a) (hb : rwS T N I b) (ham : a ≠ m + 1 ∧ a ≠ m + 2) (hbm : b ≠ m + 1 ∧ b ≠ m + 2) : axEx G YX2_match 2 [vR m, vR a, vR b] T N I R z (fun r1 I1 => r1 = none ∧ (∀ q, q ≠ m + 1 → q ≠ m + 2 → I1 q = I q) ∧ ∀ i : Int, 0 ≤ i → i < N a → I1 (m + 2) i = mtP (I a) (I b) (N a) (N b) i) := by

  refine ax_enter (by decide) (Nat.le_of_ble_eq_true rfl) (ax_cat rfl) (fun f hC => ?_)
  show axX G f 0 0 _ 0 [vR m, vR a, vR b, vU, vU, vU, vU, vU, vU] [] T N I R z 0 0
  have la := ha.2.1
  have lb := hb.2.1
  have mi1 : min (N a) 16 = N a := by omega
  have mi2 : min (N b) 16 = N b := by omega
  have main : ∀ (B : Nat → Int → Int), (∀ q, q ≠ m + 1 → B q = I q) → (∀ i j : Int, 0 ≤ i → i ≤ N a → 0 ≤ j → j ≤ N b → B (m + 1) (17 * i + j) = lcv (I a) (I b) (N a) (N b) i j) → ∀ (c : Nat) (x : Int) (J : Nat → Int → Int) (c8 : ax_V), (N a - x).toNat ≤ c → 0 ≤ x → x ≤ N a → (∀ q, q ≠ m + 2 → J q = B q) → (∀ i : Int, 0 ≤ i → i < x → J (m + 2) i = mtP (I a) (I b) (N a) (N b) i) → axX G f 0 0 (fun r1 T1 N1 I1 R1 z1 => (r1 = none ∧ (∀ q, q ≠ m + 1 → q ≠ m + 2 → I1 q = I q) ∧ ∀ i : Int, 0 ≤ i → i < N a → I1 (m + 2) i = mtP (I a) (I b) (N a) (N b) i) ∧ T1 = T ∧ N1 = N ∧ R1 = R ∧ z1 = z) 40 [vR m, vR a, vR b, vI (N a), vI (N b), vI (mtS (I a) (I b) (N a) (N b) x.toNat).1, vI (mtS (I a) (I b) (N a) (N b) x.toNat).2, vI x, c8] [] T N J R z 0 0 := by
    intro B hB hBv c
    induction c with
    | zero =>
      intro x J c8 hc h0 h1 hJ hv
      refine x_iload (pc := 40) hC dX2_match_40 rfl ?_
      refine x_iload_n (pc := 42) hC dX2_match_42 rfl ?_
      refine x_icmp_ge (pc := 43) hC 139 dX2_match_43 (by decide) (by omega) (by omega) (fun b43 => ?_) (fun b43 => ?_)
      · refine x_vret (pc := 139) hC rfl dX2_match_139 ?_
        exact ⟨⟨rfl, fun q a1 a2 => by rw [hJ q a2]; exact hB q a1, fun i a1 a2 => hv i a1 (by omega)⟩, rfl, rfl, rfl, rfl⟩
      · omega
    | succ c ih =>
      intro x J c8 hc h0 h1 hJ hv
      have hsf := mtS_f (I a) (I b) (na := N a) (nb := N b) lb.1 x.toNat
      have hsl := mtS_l (I a) (I b) (na := N a) (nb := N b) la.2 x.toNat
      have hms := mtS_s (a := I a) (b := I b) (na := N a) (nb := N b) h0
      have lr : ∀ j, 0 ≤ lcv (I a) (I b) (N a) (N b) (x + 1) j ∧ lcv (I a) (I b) (N a) (N b) (x + 1) j ≤ 16 := fun j => lcv_r _ _ _ _ _ _ (by omega)
      have found : ∀ (K : Nat → Int → Int) (y : Int) (c8 : ax_V), x < N a → 0 ≤ y → y < N b → (∀ q, q ≠ m + 2 → K q = B q) → (∀ i : Int, 0 ≤ i → i < x → K (m + 2) i = mtP (I a) (I b) (N a) (N b) i) → mtP (I a) (I b) (N a) (N b) x = y → axX G f 0 0 (fun r1 T1 N1 I1 R1 z1 => (r1 = none ∧ (∀ q, q ≠ m + 1 → q ≠ m + 2 → I1 q = I q) ∧ ∀ i : Int, 0 ≤ i → i < N a → I1 (m + 2) i = mtP (I a) (I b) (N a) (N b) i) ∧ T1 = T ∧ N1 = N ∧ R1 = R ∧ z1 = z) 133 [vR m, vR a, vR b, vI (N a), vI (N b), vI ((mtS (I a) (I b) (N a) (N b) x.toNat).1 + -1), vI (y + 1), vI x, c8] [] T N (ax_u K (m + 2) x y) R z 0 0 := by
        intro K y c8 hxn hy0 hyb hK hKv hmp
        rw [if_neg (by omega), hmp] at hms
        have := ih (x + 1) (ax_u K (m + 2) x y) c8 (by omega) (by omega) (by omega) (fun q hq => by rw [axu_row hq]; exact hK q hq) (fun i a1 a2 => by
          by_cases hi : i = x
          · rw [hi, axu_s]; exact hmp.symm
          · rw [axu_j hi]; exact hKv i a1 (by omega))
        rw [hms] at this
        refine x_iinc (pc := 133) hC dX2_match_133 rfl ?_
        dsimp only [List.set]
        refine x_goto (pc := 136) hC 40 dX2_match_136 (by decide) ?_
        exact this
      have none_ : ∀ (K : Nat → Int → Int) (c8 : ax_V), x < N a → (∀ q, q ≠ m + 2 → K q = B q) → (∀ i : Int, 0 ≤ i → i < x → K (m + 2) i = mtP (I a) (I b) (N a) (N b) i) → K (m + 2) x = -9 → mtP (I a) (I b) (N a) (N b) x = -9 → axX G f 0 0 (fun r1 T1 N1 I1 R1 z1 => (r1 = none ∧ (∀ q, q ≠ m + 1 → q ≠ m + 2 → I1 q = I q) ∧ ∀ i : Int, 0 ≤ i → i < N a → I1 (m + 2) i = mtP (I a) (I b) (N a) (N b) i) ∧ T1 = T ∧ N1 = N ∧ R1 = R ∧ z1 = z) 133 [vR m, vR a, vR b, vI (N a), vI (N b), vI (mtS (I a) (I b) (N a) (N b) x.toNat).1, vI (mtS (I a) (I b) (N a) (N b) x.toNat).2, vI x, c8] [] T N K R z 0 0 := by
        intro K c8 hxn hK hKv hKx hmp
        rw [if_pos hmp] at hms
        have := ih (x + 1) K c8 (by omega) (by omega) (by omega) hK (fun i a1 a2 => by
          by_cases hi : i = x
          · rw [hi, hKx]; exact hmp.symm
          · exact hKv i a1 (by omega))
        rw [hms] at this
        refine x_iinc (pc := 133) hC dX2_match_133 rfl ?_
        dsimp only [List.set]
        refine x_goto (pc := 136) hC 40 dX2_match_136 (by decide) ?_
        exact this
      have inner : x < N a → ∀ (c : Nat) (y : Int) (K : Nat → Int → Int), (N b - y).toNat = c → 0 ≤ y → y ≤ N b → (∀ q, q ≠ m + 2 → K q = B q) → (∀ i : Int, 0 ≤ i → i < x → K (m + 2) i = mtP (I a) (I b) (N a) (N b) i) → K (m + 2) x = -9 → mtP (I a) (I b) (N a) (N b) x = fj (fun j => I a x = I b j ∧ lcv (I a) (I b) (N a) (N b) (x + 1) (j + 1) + 1 = (mtS (I a) (I b) (N a) (N b) x.toNat).1) c y → axX G f 0 0 (fun r1 T1 N1 I1 R1 z1 => (r1 = none ∧ (∀ q, q ≠ m + 1 → q ≠ m + 2 → I1 q = I q) ∧ ∀ i : Int, 0 ≤ i → i < N a → I1 (m + 2) i = mtP (I a) (I b) (N a) (N b) i) ∧ T1 = T ∧ N1 = N ∧ R1 = R ∧ z1 = z) 59 [vR m, vR a, vR b, vI (N a), vI (N b), vI (mtS (I a) (I b) (N a) (N b) x.toNat).1, vI (mtS (I a) (I b) (N a) (N b) x.toNat).2, vI x, vI y] [] T N K R z 0 0 := by
        intro hxn c
        induction c with
        | zero =>
          intro y K hc2 g0 g1 hK hKv hKx hfj
          refine x_iload (pc := 59) hC dX2_match_59 rfl ?_
          refine x_iload (pc := 61) hC dX2_match_61 rfl ?_
          refine x_icmp_ge (pc := 63) hC 133 dX2_match_63 (by decide) (by omega) (by omega) (fun b63 => ?_) (fun b63 => ?_)
          · exact none_ K _ hxn hK hKv hKx (by rw [hfj]; rfl)
          · omega
        | succ c ih2 =>
          intro y K hc2 g0 g1 hK hKv hKx hfj
          have ka : K a x = I a x := by rw [hK a ham.2, hB a ham.1]
          have kb : K b y = I b y := by rw [hK b hbm.2, hB b hbm.1]
          have ra := ha.2.2 x h0 hxn
          have rb : y < N b → 0 ≤ I b y ∧ I b y < 100 := fun h => hb.2.2 y g0 h
          have km : y < N b → K (m + 1) ((x + 1) * 17 + y + 1) = lcv (I a) (I b) (N a) (N b) (x + 1) (y + 1) := fun h => by
            rw [hK (m + 1) (by omega), show (x + 1) * 17 + y + 1 = 17 * (x + 1) + (y + 1) by omega]
            exact hBv _ _ (by omega) (by omega) (by omega) (by omega)
          have q3 := lr (y + 1)
          simp only [fj] at hfj
          refine x_iload (pc := 59) hC dX2_match_59 rfl ?_
          refine x_iload (pc := 61) hC dX2_match_61 rfl ?_
          refine x_icmp_ge (pc := 63) hC 133 dX2_match_63 (by decide) (by omega) (by omega) (fun b63 => ?_) (fun b63 => ?_)
          · first
            | exact found K y _ hxn g0 (by omega) hK hKv (by rw [hfj, if_pos ⟨by assumption, by omega⟩])
            | exact none_ K _ hxn hK hKv hKx (by
                rw [hfj, if_neg (fun h => by have := h.2; omega)]
                exact fj_none (fun j h => by have := h.2; have := lr (j + 1); omega) _ _)
            | (exfalso; omega)
          · refine x_iload (pc := 66) hC dX2_match_66 rfl ?_
            refine x_if_le (pc := 68) hC 133 dX2_match_68 (by decide) (by omega) (fun b68 => ?_) (fun b68 => ?_)
            · first
              | exact found K y _ hxn g0 (by omega) hK hKv (by rw [hfj, if_pos ⟨by assumption, by omega⟩])
              | exact none_ K _ hxn hK hKv hKx (by
                  rw [hfj, if_neg (fun h => by have := h.2; omega)]
                  exact fj_none (fun j h => by have := h.2; have := lr (j + 1); omega) _ _)
              | (exfalso; omega)
            · refine x_aload_n (pc := 71) hC dX2_match_71 rfl ?_
              refine x_iload (pc := 72) hC dX2_match_72 rfl ?_
              refine x_iald (pc := 74) hC dX2_match_74 ha.1 (by omega) (by omega) ?_
              refine x_aload_n (pc := 75) hC dX2_match_75 rfl ?_
              refine x_iload (pc := 76) hC dX2_match_76 rfl ?_
              refine x_iald (pc := 78) hC dX2_match_78 hb.1 (by omega) (by omega) ?_
              rw [ka, kb]
              have q2 := rb (by omega)
              refine x_icmp_ne (pc := 79) hC 127 dX2_match_79 (by decide) (by omega) (by omega) (fun b79 => ?_) (fun b79 => ?_)
              · refine x_iinc (pc := 127) hC dX2_match_127 rfl ?_
                dsimp only [List.set]
                refine x_goto (pc := 130) hC 59 dX2_match_130 (by decide) ?_
                refine ih2 (y + 1) K (by omega) (by omega) (by omega) hK hKv hKx ?_
                rw [hfj, if_neg (fun h => by first | exact absurd h.1 (by assumption) | (have := h.2; omega))]
              · refine x_aload_n (pc := 82) hC dX2_match_82 rfl ?_
                refine x_getO (pc := 83) hC gf_X2_11 dX2_match_83 hm.1 hm.2.1.1 ?_
                refine x_iload (pc := 86) hC dX2_match_86 rfl ?_
                refine x_iconst (pc := 88) hC dX2_match_88 ?_
                refine x_iadd (pc := 89) hC dX2_match_89 ?_
                refine x_bipush (pc := 90) hC dX2_match_90 (by decide) ?_
                refine x_imul (pc := 92) hC dX2_match_92 ?_
                refine x_iload (pc := 93) hC dX2_match_93 rfl ?_
                refine x_iadd (pc := 95) hC dX2_match_95 ?_
                refine x_iconst (pc := 96) hC dX2_match_96 ?_
                refine x_iadd (pc := 97) hC dX2_match_97 ?_
                refine x_iald (pc := 98) hC dX2_match_98 hm.2.1.2.1 (by omega) (by rw [hm.2.1.2.2]; omega) ?_
                rw [km (by omega)]
                refine x_iload (pc := 99) hC dX2_match_99 rfl ?_
                refine x_iconst (pc := 101) hC dX2_match_101 ?_
                refine x_isub (pc := 102) hC dX2_match_102 ?_
                refine x_icmp_ne (pc := 103) hC 127 dX2_match_103 (by decide) (by omega) (by omega) (fun b103 => ?_) (fun b103 => ?_)
                · refine x_iinc (pc := 127) hC dX2_match_127 rfl ?_
                  dsimp only [List.set]
                  refine x_goto (pc := 130) hC 59 dX2_match_130 (by decide) ?_
                  refine ih2 (y + 1) K (by omega) (by omega) (by omega) hK hKv hKx ?_
                  rw [hfj, if_neg (fun h => by first | exact absurd h.1 (by assumption) | (have := h.2; omega))]
                · refine x_aload_n (pc := 106) hC dX2_match_106 rfl ?_
                  refine x_getO (pc := 107) hC gf_X2_15 dX2_match_107 hm.1 hm.2.2.1.1 ?_
                  refine x_iload (pc := 110) hC dX2_match_110 rfl ?_
                  refine x_iload (pc := 112) hC dX2_match_112 rfl ?_
                  refine x_iast (pc := 114) hC dX2_match_114 hm.2.2.1.2.1 (by omega) (by rw [hm.2.2.1.2.2]; omega) ?_
                  refine x_iload (pc := 115) hC dX2_match_115 rfl ?_
                  refine x_iconst (pc := 117) hC dX2_match_117 ?_
                  refine x_iadd (pc := 118) hC dX2_match_118 ?_
                  refine x_istore (pc := 119) hC dX2_match_119 (Nat.le_of_ble_eq_true rfl) ?_
                  dsimp only [List.set]
                  refine x_iinc (pc := 121) hC dX2_match_121 rfl ?_
                  dsimp only [List.set]
                  refine x_goto (pc := 124) hC 133 dX2_match_124 (by decide) ?_
                  first
                  | exact found K y _ hxn g0 (by omega) hK hKv (by rw [hfj, if_pos ⟨by assumption, by omega⟩])
                  | exact none_ K _ hxn hK hKv hKx (by
                      rw [hfj, if_neg (fun h => by have := h.2; omega)]
                      exact fj_none (fun j h => by have := h.2; have := lr (j + 1); omega) _ _)
                  | (exfalso; omega)
      refine x_iload (pc := 40) hC dX2_match_40 rfl ?_
      refine x_iload_n (pc := 42) hC dX2_match_42 rfl ?_
      refine x_icmp_ge (pc := 43) hC 139 dX2_match_43 (by decide) (by omega) (by omega) (fun b43 => ?_) (fun b43 => ?_)
      · refine x_vret (pc := 139) hC rfl dX2_match_139 ?_
        exact ⟨⟨rfl, fun q a1 a2 => by rw [hJ q a2]; exact hB q a1, fun i a1 a2 => hv i a1 (by omega)⟩, rfl, rfl, rfl, rfl⟩
      · refine x_aload_n (pc := 46) hC dX2_match_46 rfl ?_
        refine x_getO (pc := 47) hC gf_X2_15 dX2_match_47 hm.1 hm.2.2.1.1 ?_
        refine x_iload (pc := 50) hC dX2_match_50 rfl ?_
        refine x_bipush (pc := 52) hC dX2_match_52 (by decide) ?_
        refine x_iast (pc := 54) hC dX2_match_54 hm.2.2.1.2.1 (by omega) (by rw [hm.2.2.1.2.2]; omega) ?_
        refine x_iload (pc := 55) hC dX2_match_55 rfl ?_
        refine x_istore (pc := 57) hC dX2_match_57 (Nat.le_of_ble_eq_true rfl) ?_
        dsimp only [List.set]
        exact inner (by omega) _ _ _ rfl hsf.1 hsf.2 (fun q hq => by rw [axu_row hq]; exact hJ q hq) (fun i a1 a2 => by rw [axu_j (by omega)]; exact hv i a1 a2) axu_s rfl
  refine x_aload_n (pc := 0) hC dX2_match_0 rfl ?_
  refine x_alen (pc := 1) hC dX2_match_1 (by rw [ha.1]; decide) (by rw [ha.1]; decide) ?_
  refine x_bipush (pc := 2) hC dX2_match_2 (by decide) ?_
  refine x_mmin (pc := 4) hC cs_X2_28 dX2_match_4 (by omega) (by omega) (by decide) rfl (Nat.le_of_ble_eq_true rfl) ?_
  rw [mi1]
  refine x_istore_n (pc := 7) hC dX2_match_7 (Nat.le_of_ble_eq_true rfl) ?_
  dsimp only [List.set]
  refine x_aload_n (pc := 8) hC dX2_match_8 rfl ?_
  refine x_alen (pc := 9) hC dX2_match_9 (by rw [hb.1]; decide) (by rw [hb.1]; decide) ?_
  refine x_bipush (pc := 10) hC dX2_match_10 (by decide) ?_
  refine x_mmin (pc := 12) hC cs_X2_28 dX2_match_12 (by omega) (by omega) (by decide) rfl (Nat.le_of_ble_eq_true rfl) ?_
  rw [mi2]
  refine x_istore (pc := 15) hC dX2_match_15 (Nat.le_of_ble_eq_true rfl) ?_
  dsimp only [List.set]
  refine x_aload_n (pc := 17) hC dX2_match_17 rfl ?_
  refine x_aload_n (pc := 18) hC dX2_match_18 rfl ?_
  refine x_iload_n (pc := 19) hC dX2_match_19 rfl ?_
  refine x_aload_n (pc := 20) hC dX2_match_20 rfl ?_
  refine x_iload (pc := 21) hC dX2_match_21 rfl ?_
  refine x_mVx (pc := 23) hC cv_X2_34 dX2_match_23 (c_fillMost hm ha hb (by omega) (by omega) ham.1 hbm.1) hm.1 rfl (by decide) rfl rfl (Nat.le_of_ble_eq_true rfl) ?_
  rintro v B ⟨rfl, hB, hBv⟩
  dsimp only [Option.toList, List.nil_append]
  have h00 : B (m + 1) 0 = (mtS (I a) (I b) (N a) (N b) (0 : Int).toNat).1 := by
    rw [mtS_0]
    exact hBv 0 0 (by omega) (by omega) (by omega) (by omega)
  refine x_aload_n (pc := 26) hC dX2_match_26 rfl ?_
  refine x_getO (pc := 27) hC gf_X2_11 dX2_match_27 hm.1 hm.2.1.1 ?_
  refine x_iconst (pc := 30) hC dX2_match_30 ?_
  refine x_iald (pc := 31) hC dX2_match_31 hm.2.1.2.1 (by omega) (by rw [hm.2.1.2.2]; omega) ?_
  refine x_istore (pc := 32) hC dX2_match_32 (Nat.le_of_ble_eq_true rfl) ?_
  dsimp only [List.set]
  refine x_iconst (pc := 34) hC dX2_match_34 ?_
  refine x_istore (pc := 35) hC dX2_match_35 (Nat.le_of_ble_eq_true rfl) ?_
  dsimp only [List.set]
  refine x_iconst (pc := 37) hC dX2_match_37 ?_
  refine x_istore (pc := 38) hC dX2_match_38 (Nat.le_of_ble_eq_true rfl) ?_
  dsimp only [List.set]
  rw [h00]
  exact main B hB hBv _ 0 B _ (Nat.le_refl _) (by omega) (by omega) (fun q _ => rfl) (fun i a1 a2 => by omega)

