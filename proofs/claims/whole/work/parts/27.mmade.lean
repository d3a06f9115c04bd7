/-! THE REFERENCE: what a call leaves, as numbers -/
/-- a stretch of a row, laid anew -/
def ax_f (I : Nat → Int → Int) (a : Nat) (lo n : Int) (g : Int → Int) : Nat → Int → Int := fun b i => if b = a ∧ lo ≤ i ∧ i < lo + n then g i else I b i
theorem axf_0 {I : Nat → Int → Int} {a : Nat} {lo : Int} {g : Int → Int} : ax_f I a lo 0 g = I := by
  funext b i; unfold ax_f; rw [if_neg (by omega)]
theorem axf_in {I : Nat → Int → Int} {a : Nat} {lo n i : Int} {g : Int → Int} (h0 : lo ≤ i) (h1 : i < lo + n) : ax_f I a lo n g a i = g i := if_pos ⟨rfl, h0, h1⟩
theorem axf_out {I : Nat → Int → Int} {a b : Nat} {lo n i : Int} {g : Int → Int} (h : i < lo ∨ lo + n ≤ i) : ax_f I a lo n g b i = I b i := if_neg (by omega)
theorem axf_a {I : Nat → Int → Int} {a b : Nat} {lo n i : Int} {g : Int → Int} (h : b ≠ a) : ax_f I a lo n g b i = I b i := if_neg (fun q => h q.1)
theorem axf_row {I : Nat → Int → Int} {a b : Nat} {lo n : Int} {g : Int → Int} (h : b ≠ a) : ax_f I a lo n g b = I b := funext fun i => axf_a h
theorem axf_step {I : Nat → Int → Int} {a : Nat} {lo n j v : Int} {g : Int → Int} (hn : 0 ≤ n) (hj : j = lo + n) (hv : v = g j) : ax_u (ax_f I a lo n g) a j v = ax_f I a lo (n + 1) g := by
  funext b i
  subst hj hv
  by_cases hb : b = a
  · subst hb
    by_cases hi : i = lo + n
    · subst hi; rw [axu_s, axf_in (by omega) (by omega)]
    · rw [axu_j hi]
      by_cases h2 : lo ≤ i ∧ i < lo + n
      · rw [axf_in h2.1 h2.2, axf_in h2.1 (by omega)]
      · rw [axf_out (by omega), axf_out (by omega)]
  · rw [axu_a hb, axf_a hb, axf_a hb]
theorem axf_uc {I : Nat → Int → Int} {a b : Nat} {lo n j v : Int} {g : Int → Int} (h : b ≠ a) : ax_u (ax_f I a lo n g) b j v = ax_f (ax_u I b j v) a lo n g := by
  funext c i
  by_cases hc : c = a
  · subst hc
    rw [axu_a (fun e => h e.symm)]
    unfold ax_f
    rw [axu_a (fun e => h e.symm)]
  · rw [axf_a hc]
    by_cases h2 : c = b ∧ i = j
    · rw [h2.1, h2.2, axu_s, axu_s]
    · unfold ax_u
      rw [if_neg h2, if_neg h2, axf_a hc]
theorem axf_fc {I : Nat → Int → Int} {a b : Nat} {lo n lo' n' : Int} {g g' : Int → Int} (h : b ≠ a) : ax_f (ax_f I a lo n g) b lo' n' g' = ax_f (ax_f I b lo' n' g') a lo n g := by
  funext c i
  by_cases hc : c = a
  · subst hc
    rw [axf_a (fun e => h e.symm)]
    unfold ax_f
    by_cases h2 : lo ≤ i ∧ i < lo + n
    · rw [if_pos ⟨rfl, h2⟩, if_pos ⟨rfl, h2⟩]
    · rw [if_neg (fun e => h2 e.2), if_neg (fun e => h2 e.2), if_neg (fun e => h e.1.symm)]
  · rw [axf_a (I := ax_f I b lo' n' g') hc]
    unfold ax_f
    by_cases h2 : c = b ∧ lo' ≤ i ∧ i < lo' + n'
    · rw [if_pos h2, if_pos h2]
    · rw [if_neg h2, if_neg h2, if_neg (fun e => hc e.1)]
theorem axf_g {I : Nat → Int → Int} {a : Nat} {lo n : Int} {g g' : Int → Int} (h : ∀ i, lo ≤ i → i < lo + n → g i = g' i) : ax_f I a lo n g = ax_f I a lo n g' := by
  funext b i
  unfold ax_f
  by_cases h2 : b = a ∧ lo ≤ i ∧ i < lo + n
  · rw [if_pos h2, if_pos h2]; exact h i h2.2.1 h2.2.2
  · rw [if_neg h2, if_neg h2]
/-- the scratch apart: the same change on both sides -/
theorem scr.u {I J : Nat → Int → Int} {o : Nat} (h : scr I J o) {a : Nat} {j v : Int} : scr (ax_u I a j v) (ax_u J a j v) o := by
  refine ⟨fun q h1 h2 => ?_, fun k hk => ?_⟩
  · funext i
    unfold ax_u
    rw [h.1 q h1 h2]
  · unfold ax_u
    rw [h.2 k hk]
theorem scr.f {I J : Nat → Int → Int} {o : Nat} (h : scr I J o) {a : Nat} {lo n : Int} {g g' : Int → Int} (hg : ∀ i, lo ≤ i → i < lo + n → g i = g' i) : scr (ax_f I a lo n g) (ax_f J a lo n g') o := by
  rw [axf_g (g := g) hg]
  refine ⟨fun q h1 h2 => ?_, fun k hk => ?_⟩
  · funext i
    unfold ax_f
    rw [h.1 q h1 h2]
  · unfold ax_f
    rw [h.2 k hk]
/-- a step of the trace -/
def lvT (I : Nat → Int → Int) (o : Nat) (c : Int) : Nat → Int → Int := ax_u I o 1 (31 * I o 1 + c)
def mdT (k g t : Int) : Int := (fun t => if k = 2 then 31 * (31 * t + 5) + 6 else t) ((fun t => if 1 ≤ k then 31 * (31 * t + 3) + 4 else t) ((fun t => if g = -9 then 31 * t + 7 else t) (31 * (31 * t + 1) + 2)))
/-- a new commit: its kind, its parent, its origin -/
def mdI (I : Nat → Int → Int) (o : Nat) (k p g : Int) : Nat → Int → Int := ax_u (ax_u (ax_u (ax_u (ax_u (ax_u (ax_u (ax_u I o 2 (I o 2 + 1)) (o + 1) (I o 2) k) (o + 2) (I o 2) p) (o + 3) (I o 2) g) o 3 (I o 3 + 1)) (o + 4) (I o 2) (I o 3 + 1)) (o + 6) (I o 2) 0) o 1 (mdT k g (I o 1))
theorem axu_uu {I : Nat → Int → Int} {a : Nat} {j v w : Int} : ax_u (ax_u I a j v) a j w = ax_u I a j w := by
  funext b i
  unfold ax_u
  by_cases h : b = a ∧ i = j
  · rw [if_pos h, if_pos h]
  · rw [if_neg h, if_neg h, if_neg h]

set_option maxHeartbeats 4000000 in
set_option maxRecDepth 100000 in
theorem m_made {G : ax_G} {T : Nat → Nat} {N : Nat → Int} {I : Nat → Int → Int} {R : Nat → Int → Option Nat} {z o : Nat} (M : axMo T N R o) {k p g : Int} (hm : 0 ≤ (I o 2) ∧ (I o 2) < 24) (hk : 0 ≤ k ∧ k ≤ 2) (hg : ax_r g) : axE G YX12_made 1 [vR o, vI k, vI p, vI g] T N I R z (some (vI ((I o 2)))) (mdI I o k p g) := by

  refine ax_enter (by decide) (Nat.le_of_ble_eq_true rfl) (ax_cat rfl) (fun f hC => ?_)
  show axX G f 0 0 _ 0 [vR o, vI k, vI p, vI g, vU] [] T N I R z 0 0
  have e3 : (ax_u (ax_u (ax_u (ax_u I o 2 (I o 2 + 1)) (o + 1) (I o 2) k) (o + 2) (I o 2) p) (o + 3) (I o 2) g) o 3 = I o 3 := by
    rw [axu_a (by omega), axu_a (by omega), axu_a (by omega), axu_j (by decide)]
  refine x_aload_n (pc := 0) hC dX12_made_0 rfl ?_
  refine x_getI (pc := 1) hC gf_X12_129 dX12_made_1 M.1 ?_
  refine x_istore (pc := 4) hC dX12_made_4 (Nat.le_of_ble_eq_true rfl) ?_
  dsimp only [List.set]
  refine x_aload_n (pc := 6) hC dX12_made_6 rfl ?_
  refine x_dup (pc := 7) hC dX12_made_7 rfl ?_
  refine x_getI (pc := 8) hC gf_X12_129 dX12_made_8 M.1 ?_
  refine x_iconst (pc := 11) hC dX12_made_11 ?_
  refine x_iadd (pc := 12) hC dX12_made_12 ?_
  refine x_putI (pc := 13) hC pf_X12_129 dX12_made_13 M.1 (by decide) ?_
  refine x_aload_n (pc := 16) hC dX12_made_16 rfl ?_
  refine x_getO (pc := 17) hC gf_X12_7 dX12_made_17 M.1 (mo_kind M).1 ?_
  refine x_iload (pc := 20) hC dX12_made_20 rfl ?_
  refine x_iload_n (pc := 22) hC dX12_made_22 rfl ?_
  refine x_iast (pc := 23) hC dX12_made_23 (mo_kind M).2.1 (by omega) (by rw [(mo_kind M).2.2]; omega) ?_
  refine x_aload_n (pc := 24) hC dX12_made_24 rfl ?_
  refine x_getO (pc := 25) hC gf_X12_13 dX12_made_25 M.1 (mo_parent M).1 ?_
  refine x_iload (pc := 28) hC dX12_made_28 rfl ?_
  refine x_iload_n (pc := 30) hC dX12_made_30 rfl ?_
  refine x_iast (pc := 31) hC dX12_made_31 (mo_parent M).2.1 (by omega) (by rw [(mo_parent M).2.2]; omega) ?_
  refine x_aload_n (pc := 32) hC dX12_made_32 rfl ?_
  refine x_getO (pc := 33) hC gf_X12_16 dX12_made_33 M.1 (mo_origin M).1 ?_
  refine x_iload (pc := 36) hC dX12_made_36 rfl ?_
  refine x_iload_n (pc := 38) hC dX12_made_38 rfl ?_
  refine x_iast (pc := 39) hC dX12_made_39 (mo_origin M).2.1 (by omega) (by rw [(mo_origin M).2.2]; omega) ?_
  refine x_aload_n (pc := 40) hC dX12_made_40 rfl ?_
  refine x_dup (pc := 41) hC dX12_made_41 rfl ?_
  refine x_getI (pc := 42) hC gf_X12_132 dX12_made_42 M.1 ?_
  refine x_iconst (pc := 45) hC dX12_made_45 ?_
  refine x_iadd (pc := 46) hC dX12_made_46 ?_
  refine x_putI (pc := 47) hC pf_X12_132 dX12_made_47 M.1 (by decide) ?_
  refine x_aload_n (pc := 50) hC dX12_made_50 rfl ?_
  refine x_getO (pc := 51) hC gf_X12_19 dX12_made_51 M.1 (mo_serial M).1 ?_
  refine x_iload (pc := 54) hC dX12_made_54 rfl ?_
  refine x_aload_n (pc := 56) hC dX12_made_56 rfl ?_
  refine x_getI (pc := 57) hC gf_X12_132 dX12_made_57 M.1 ?_
  refine x_iast (pc := 60) hC dX12_made_60 (mo_serial M).2.1 (by omega) (by rw [(mo_serial M).2.2]; omega) ?_
  rw [e3, axu_s]
  refine x_aload_n (pc := 61) hC dX12_made_61 rfl ?_
  refine x_getO (pc := 62) hC gf_X12_25 dX12_made_62 M.1 (mo_size M).1 ?_
  refine x_iload (pc := 65) hC dX12_made_65 rfl ?_
  refine x_iconst (pc := 67) hC dX12_made_67 ?_
  refine x_iast (pc := 68) hC dX12_made_68 (mo_size M).2.1 (by omega) (by rw [(mo_size M).2.2]; omega) ?_
  have e1 : (ax_u (ax_u (ax_u (ax_u (ax_u (ax_u (ax_u I o 2 (I o 2 + 1)) (o + 1) (I o 2) k) (o + 2) (I o 2) p) (o + 3) (I o 2) g) o 3 (I o 3 + 1)) (o + 4) (I o 2) (I o 3 + 1)) (o + 6) (I o 2) 0) o 1 = I o 1 := by
    rw [axu_a (by omega), axu_a (by omega), axu_j (by decide), axu_a (by omega), axu_a (by omega), axu_a (by omega), axu_j (by decide)]
  refine x_aload_n (pc := 69) hC dX12_made_69 rfl ?_
  refine x_iconst (pc := 70) hC dX12_made_70 ?_
  refine x_mV (pc := 71) hC cv_X12_135 dX12_made_71 (m_leaves M) M.1 rfl (by decide) rfl rfl (Nat.le_of_ble_eq_true rfl) ?_
  dsimp only [Option.toList, List.nil_append]
  try rw [axu_uu, axu_s]
  rw [e1]
  refine x_aload_n (pc := 74) hC dX12_made_74 rfl ?_
  refine x_iconst (pc := 75) hC dX12_made_75 ?_
  refine x_mV (pc := 76) hC cv_X12_135 dX12_made_76 (m_leaves M) M.1 rfl (by decide) rfl rfl (Nat.le_of_ble_eq_true rfl) ?_
  dsimp only [Option.toList, List.nil_append]
  try rw [axu_uu, axu_s]
  refine x_iload_n (pc := 79) hC dX12_made_79 rfl ?_
  refine x_bipush (pc := 80) hC dX12_made_80 (by decide) ?_
  refine x_icmp_ne (pc := 82) hC 91 dX12_made_82 (by decide) (by omega) (by omega) (fun b82 => ?_) (fun b82 => ?_)
  · refine x_iload_n (pc := 91) hC dX12_made_91 rfl ?_
    refine x_iconst (pc := 92) hC dX12_made_92 ?_
    refine x_icmp_lt (pc := 93) hC 106 dX12_made_93 (by decide) (by omega) (by omega) (fun b93 => ?_) (fun b93 => ?_)
    · refine x_iload_n (pc := 106) hC dX12_made_106 rfl ?_
      refine x_iconst (pc := 107) hC dX12_made_107 ?_
      refine x_icmp_ne (pc := 108) hC 122 dX12_made_108 (by decide) (by omega) (by omega) (fun b108 => ?_) (fun b108 => ?_)
      · refine x_iload (pc := 122) hC dX12_made_122 rfl ?_
        refine x_iret (pc := 124) hC rfl dX12_made_124 ?_
        first
        | (exfalso; omega)
        | (refine ⟨rfl, rfl, rfl, ?_, rfl, rfl⟩
           unfold mdI mdT
           simp (config := {decide := true}) only [*, if_true, if_false]
           repeat' first | rw [if_pos (by omega)] | rw [if_neg (by omega)])
      · refine x_aload_n (pc := 111) hC dX12_made_111 rfl ?_
        refine x_iconst (pc := 112) hC dX12_made_112 ?_
        refine x_mV (pc := 113) hC cv_X12_135 dX12_made_113 (m_leaves M) M.1 rfl (by decide) rfl rfl (Nat.le_of_ble_eq_true rfl) ?_
        dsimp only [Option.toList, List.nil_append]
        try rw [axu_uu, axu_s]
        refine x_aload_n (pc := 116) hC dX12_made_116 rfl ?_
        refine x_bipush (pc := 117) hC dX12_made_117 (by decide) ?_
        refine x_mV (pc := 119) hC cv_X12_135 dX12_made_119 (m_leaves M) M.1 rfl (by decide) rfl rfl (Nat.le_of_ble_eq_true rfl) ?_
        dsimp only [Option.toList, List.nil_append]
        try rw [axu_uu, axu_s]
        refine x_iload (pc := 122) hC dX12_made_122 rfl ?_
        refine x_iret (pc := 124) hC rfl dX12_made_124 ?_
        first
        | (exfalso; omega)
        | (refine ⟨rfl, rfl, rfl, ?_, rfl, rfl⟩
           unfold mdI mdT
           simp (config := {decide := true}) only [*, if_true, if_false]
           repeat' first | rw [if_pos (by omega)] | rw [if_neg (by omega)])
    · refine x_aload_n (pc := 96) hC dX12_made_96 rfl ?_
      refine x_iconst (pc := 97) hC dX12_made_97 ?_
      refine x_mV (pc := 98) hC cv_X12_135 dX12_made_98 (m_leaves M) M.1 rfl (by decide) rfl rfl (Nat.le_of_ble_eq_true rfl) ?_
      dsimp only [Option.toList, List.nil_append]
      try rw [axu_uu, axu_s]
      refine x_aload_n (pc := 101) hC dX12_made_101 rfl ?_
      refine x_iconst (pc := 102) hC dX12_made_102 ?_
      refine x_mV (pc := 103) hC cv_X12_135 dX12_made_103 (m_leaves M) M.1 rfl (by decide) rfl rfl (Nat.le_of_ble_eq_true rfl) ?_
      dsimp only [Option.toList, List.nil_append]
      try rw [axu_uu, axu_s]
      refine x_iload_n (pc := 106) hC dX12_made_106 rfl ?_
      refine x_iconst (pc := 107) hC dX12_made_107 ?_
      refine x_icmp_ne (pc := 108) hC 122 dX12_made_108 (by decide) (by omega) (by omega) (fun b108 => ?_) (fun b108 => ?_)
      · refine x_iload (pc := 122) hC dX12_made_122 rfl ?_
        refine x_iret (pc := 124) hC rfl dX12_made_124 ?_
        first
        | (exfalso; omega)
        | (refine ⟨rfl, rfl, rfl, ?_, rfl, rfl⟩
           unfold mdI mdT
           simp (config := {decide := true}) only [*, if_true, if_false]
           repeat' first | rw [if_pos (by omega)] | rw [if_neg (by omega)])
      · refine x_aload_n (pc := 111) hC dX12_made_111 rfl ?_
        refine x_iconst (pc := 112) hC dX12_made_112 ?_
        refine x_mV (pc := 113) hC cv_X12_135 dX12_made_113 (m_leaves M) M.1 rfl (by decide) rfl rfl (Nat.le_of_ble_eq_true rfl) ?_
        dsimp only [Option.toList, List.nil_append]
        try rw [axu_uu, axu_s]
        refine x_aload_n (pc := 116) hC dX12_made_116 rfl ?_
        refine x_bipush (pc := 117) hC dX12_made_117 (by decide) ?_
        refine x_mV (pc := 119) hC cv_X12_135 dX12_made_119 (m_leaves M) M.1 rfl (by decide) rfl rfl (Nat.le_of_ble_eq_true rfl) ?_
        dsimp only [Option.toList, List.nil_append]
        try rw [axu_uu, axu_s]
        refine x_iload (pc := 122) hC dX12_made_122 rfl ?_
        refine x_iret (pc := 124) hC rfl dX12_made_124 ?_
        first
        | (exfalso; omega)
        | (refine ⟨rfl, rfl, rfl, ?_, rfl, rfl⟩
           unfold mdI mdT
           simp (config := {decide := true}) only [*, if_true, if_false]
           repeat' first | rw [if_pos (by omega)] | rw [if_neg (by omega)])
  · refine x_aload_n (pc := 85) hC dX12_made_85 rfl ?_
    refine x_bipush (pc := 86) hC dX12_made_86 (by decide) ?_
    refine x_mV (pc := 88) hC cv_X12_135 dX12_made_88 (m_leaves M) M.1 rfl (by decide) rfl rfl (Nat.le_of_ble_eq_true rfl) ?_
    dsimp only [Option.toList, List.nil_append]
    try rw [axu_uu, axu_s]
    refine x_iload_n (pc := 91) hC dX12_made_91 rfl ?_
    refine x_iconst (pc := 92) hC dX12_made_92 ?_
    refine x_icmp_lt (pc := 93) hC 106 dX12_made_93 (by decide) (by omega) (by omega) (fun b93 => ?_) (fun b93 => ?_)
    · refine x_iload_n (pc := 106) hC dX12_made_106 rfl ?_
      refine x_iconst (pc := 107) hC dX12_made_107 ?_
      refine x_icmp_ne (pc := 108) hC 122 dX12_made_108 (by decide) (by omega) (by omega) (fun b108 => ?_) (fun b108 => ?_)
      · refine x_iload (pc := 122) hC dX12_made_122 rfl ?_
        refine x_iret (pc := 124) hC rfl dX12_made_124 ?_
        first
        | (exfalso; omega)
        | (refine ⟨rfl, rfl, rfl, ?_, rfl, rfl⟩
           unfold mdI mdT
           simp (config := {decide := true}) only [*, if_true, if_false]
           repeat' first | rw [if_pos (by omega)] | rw [if_neg (by omega)])
      · refine x_aload_n (pc := 111) hC dX12_made_111 rfl ?_
        refine x_iconst (pc := 112) hC dX12_made_112 ?_
        refine x_mV (pc := 113) hC cv_X12_135 dX12_made_113 (m_leaves M) M.1 rfl (by decide) rfl rfl (Nat.le_of_ble_eq_true rfl) ?_
        dsimp only [Option.toList, List.nil_append]
        try rw [axu_uu, axu_s]
        refine x_aload_n (pc := 116) hC dX12_made_116 rfl ?_
        refine x_bipush (pc := 117) hC dX12_made_117 (by decide) ?_
        refine x_mV (pc := 119) hC cv_X12_135 dX12_made_119 (m_leaves M) M.1 rfl (by decide) rfl rfl (Nat.le_of_ble_eq_true rfl) ?_
        dsimp only [Option.toList, List.nil_append]
        try rw [axu_uu, axu_s]
        refine x_iload (pc := 122) hC dX12_made_122 rfl ?_
        refine x_iret (pc := 124) hC rfl dX12_made_124 ?_
        first
        | (exfalso; omega)
        | (refine ⟨rfl, rfl, rfl, ?_, rfl, rfl⟩
           unfold mdI mdT
           simp (config := {decide := true}) only [*, if_true, if_false]
           repeat' first | rw [if_pos (by omega)] | rw [if_neg (by omega)])
    · refine x_aload_n (pc := 96) hC dX12_made_96 rfl ?_
      refine x_iconst (pc := 97) hC dX12_made_97 ?_
      refine x_mV (pc := 98) hC cv_X12_135 dX12_made_98 (m_leaves M) M.1 rfl (by decide) rfl rfl (Nat.le_of_ble_eq_true rfl) ?_
      dsimp only [Option.toList, List.nil_append]
      try rw [axu_uu, axu_s]
      refine x_aload_n (pc := 101) hC dX12_made_101 rfl ?_
      refine x_iconst (pc := 102) hC dX12_made_102 ?_
      refine x_mV (pc := 103) hC cv_X12_135 dX12_made_103 (m_leaves M) M.1 rfl (by decide) rfl rfl (Nat.le_of_ble_eq_true rfl) ?_
      dsimp only [Option.toList, List.nil_append]
      try rw [axu_uu, axu_s]
      refine x_iload_n (pc := 106) hC dX12_made_106 rfl ?_
      refine x_iconst (pc := 107) hC dX12_made_107 ?_
      refine x_icmp_ne (pc := 108) hC 122 dX12_made_108 (by decide) (by omega) (by omega) (fun b108 => ?_) (fun b108 => ?_)
      · refine x_iload (pc := 122) hC dX12_made_122 rfl ?_
        refine x_iret (pc := 124) hC rfl dX12_made_124 ?_
        first
        | (exfalso; omega)
        | (refine ⟨rfl, rfl, rfl, ?_, rfl, rfl⟩
           unfold mdI mdT
           simp (config := {decide := true}) only [*, if_true, if_false]
           repeat' first | rw [if_pos (by omega)] | rw [if_neg (by omega)])
      · refine x_aload_n (pc := 111) hC dX12_made_111 rfl ?_
        refine x_iconst (pc := 112) hC dX12_made_112 ?_
        refine x_mV (pc := 113) hC cv_X12_135 dX12_made_113 (m_leaves M) M.1 rfl (by decide) rfl rfl (Nat.le_of_ble_eq_true rfl) ?_
        dsimp only [Option.toList, List.nil_append]
        try rw [axu_uu, axu_s]
        refine x_aload_n (pc := 116) hC dX12_made_116 rfl ?_
        refine x_bipush (pc := 117) hC dX12_made_117 (by decide) ?_
        refine x_mV (pc := 119) hC cv_X12_135 dX12_made_119 (m_leaves M) M.1 rfl (by decide) rfl rfl (Nat.le_of_ble_eq_true rfl) ?_
        dsimp only [Option.toList, List.nil_append]
        try rw [axu_uu, axu_s]
        refine x_iload (pc := 122) hC dX12_made_122 rfl ?_
        refine x_iret (pc := 124) hC rfl dX12_made_124 ?_
        first
        | (exfalso; omega)
        | (refine ⟨rfl, rfl, rfl, ?_, rfl, rfl⟩
           unfold mdI mdT
           simp (config := {decide := true}) only [*, if_true, if_false]
           repeat' first | rw [if_pos (by omega)] | rw [if_neg (by omega)])

/-- all anew -/
def anI (I : Nat → Int → Int) (o : Nat) : Nat → Int → Int := ax_f (ax_u (ax_f (mdI (ax_u I o 2 0) o 0 (-9) (-9)) (o + 7) 0 4 (fun _ => 0)) o 30 0) (o + 29) 0 4 (fun _ => 0)
def an (I : Nat → Int → Int) (o : Nat) : Int × (Nat → Int → Int) := if I o 40 = 0 then (I o 2, anI I o) else (-3, I)
/-- the numbers of a slot -/
def slL (I : Nat → Int → Int) (o : Nat) (s : Int) : List Int := seg (I (o + 33)) (24 * s) (24 * s + I (o + 32) s)
abbrev lnB (L : List Int) : Prop := ∀ v ∈ L, 0 ≤ v ∧ v < 100
abbrev alP (L : List Int) (m : Int) : Prop := (L.length : Int) ≤ m ∧ lnB L
/-- what holds of the slots -/
def miS (I : Nat → Int → Int) (o : Nat) : Prop := (∀ s, -9 ≤ I (o + 31) s ∧ I (o + 31) s ≤ 2) ∧ (∀ s, 0 ≤ I (o + 32) s ∧ I (o + 32) s ≤ 24) ∧ (∀ j, ax_r (I (o + 33) j)) ∧ (∀ s, 0 ≤ I (o + 34) s ∧ I (o + 34) s < 24) ∧ (∀ s, 0 ≤ I (o + 35) s ∧ I (o + 35) s ≤ 2) ∧ (∀ s, 0 ≤ I (o + 36) s ∧ I (o + 36) s ≤ I o 3) ∧ (∀ c, 0 ≤ I (o + 4) c ∧ I (o + 4) c ≤ I o 3)
def cm (I : Nat → Int → Int) (o : Nat) (b k s : Int) : Int × (Nat → Int → Int) :=
  if (0 ≤ b ∧ b < 4) ∧ 0 ≤ s ∧ s < 5 then
    if 0 ≤ k ∧ k ≤ 2 then
      if I o 40 = 0 then
        if I (o + 31) s ≤ 0 then
          if I (o + 31) s = -9 then (-11, ax_u (ax_u I o 0 0) o 0 1)
          else if alP (slL I o s) 16 then
            if I o 2 = 24 then (-4, ax_u I o 0 0)
            else (I o 2, ax_u (ax_f (ax_u (mdI (ax_u I o 0 0) o k (I (o + 7) b) (-9)) (o + 6) (I o 2) (I (o + 32) s)) (o + 5) (16 * I o 2) (I (o + 32) s) (fun j => I (o + 33) (24 * s + (j - 16 * I o 2)))) (o + 7) b (I o 2))
          else (-2, ax_u I o 0 0)
        else (-12, ax_u (ax_u I o 0 0) o 0 2)
      else (-3, ax_u I o 0 0)
    else (-2, ax_u I o 0 0)
  else (-1, ax_u I o 0 0)
def reR (I : Nat → Int → Int) (o : Nat) (k w : Int) : Int := if 0 ≤ k ∧ k < I o 30 then (if 10 ≤ w ∧ w ≤ 60 then atO (rsK I o k) (w - 10) else if 70 ≤ w ∧ w ≤ 75 then atO (rsW I o k) (w - 70) else if w = 0 then ((rsK I o k).length : Int) else if w = 1 then ((rsW I o k).length : Int) else -2) else -1

set_option maxHeartbeats 4000000 in
set_option maxRecDepth 100000 in
theorem m_anew {G : ax_G} {T : Nat → Nat} {N : Nat → Int} {I : Nat → Int → Int} {R : Nat → Int → Option Nat} {z o : Nat} (M : axMo T N R o) (hs : 0 ≤ (I o 40) ∧ (I o 40) ≤ 2) : axE G YX12_anew 2 [vR o] T N I R z (some (vI (an I o).1)) (an I o).2 := by

  refine ax_enter (by decide) (Nat.le_of_ble_eq_true rfl) (ax_cat rfl) (fun f hC => ?_)
  show axX G f 0 0 _ 0 [vR o, vU, vU] [] T N I R z 0 0
  have l2 : ∀ (n : Nat) (x : Int) (B : Nat → Int → Int), (4 - x).toNat ≤ n → 0 ≤ x → x ≤ 4 → ax_f B (o + 29) 0 4 (fun _ => 0) = anI I o → (I o 40) = 0 → axX G f 0 0 (fun r1 T1 N1 I1 R1 z1 => r1 = some (vI (an I o).1) ∧ T1 = T ∧ N1 = N ∧ I1 = (an I o).2 ∧ R1 = R ∧ z1 = z) 57 [vR o, vI ((I o 2)), vI x] [] T N (ax_f B (o + 29) 0 x (fun _ => 0)) R z 0 0 := by
    intro n
    induction n with
    | zero =>
      intro x B hn h0 h1 hB hs0
      have hx : x = 4 := by omega
      refine x_iload_n (pc := 57) hC dX12_anew_57 rfl ?_
      refine x_iconst (pc := 58) hC dX12_anew_58 ?_
      refine x_icmp_ge (pc := 59) hC 75 dX12_anew_59 (by decide) (by omega) (by omega) (fun b59 => ?_) (fun b59 => ?_)
      · refine x_iload_n (pc := 75) hC dX12_anew_75 rfl ?_
        refine x_iret (pc := 76) hC rfl dX12_anew_76 ?_
        have hx : x = 4 := by omega
        refine ⟨?_, rfl, rfl, ?_, rfl, rfl⟩
        · unfold an; rw [if_pos hs0]
        · unfold an; rw [if_pos hs0, hx]; exact hB
      · omega
    | succ n ih =>
      intro x B hn h0 h1 hB hs0
      refine x_iload_n (pc := 57) hC dX12_anew_57 rfl ?_
      refine x_iconst (pc := 58) hC dX12_anew_58 ?_
      refine x_icmp_ge (pc := 59) hC 75 dX12_anew_59 (by decide) (by omega) (by omega) (fun b59 => ?_) (fun b59 => ?_)
      · refine x_iload_n (pc := 75) hC dX12_anew_75 rfl ?_
        refine x_iret (pc := 76) hC rfl dX12_anew_76 ?_
        have hx : x = 4 := by omega
        refine ⟨?_, rfl, rfl, ?_, rfl, rfl⟩
        · unfold an; rw [if_pos hs0]
        · unfold an; rw [if_pos hs0, hx]; exact hB
      · refine x_aload_n (pc := 62) hC dX12_anew_62 rfl ?_
        refine x_getO (pc := 63) hC gf_X12_94 dX12_anew_63 M.1 (mo_done M).1 ?_
        refine x_iload_n (pc := 66) hC dX12_anew_66 rfl ?_
        refine x_iconst (pc := 67) hC dX12_anew_67 ?_
        refine x_iast (pc := 68) hC dX12_anew_68 (mo_done M).2.1 (by omega) (by rw [(mo_done M).2.2]; omega) ?_
        refine x_iinc (pc := 69) hC dX12_anew_69 rfl ?_
        dsimp only [List.set]
        refine x_goto (pc := 72) hC 57 dX12_anew_72 (by decide) ?_
        rw [axf_step h0 (by omega) rfl]
        exact ih (x + 1) B (by omega) (by omega) (by omega) hB hs0
  have l1 : ∀ (n : Nat) (x : Int) (B : Nat → Int → Int), (4 - x).toNat ≤ n → 0 ≤ x → x ≤ 4 → ax_f (ax_u (ax_f B (o + 7) 0 4 (fun _ => 0)) o 30 0) (o + 29) 0 4 (fun _ => 0) = anI I o → (I o 40) = 0 → axX G f 0 0 (fun r1 T1 N1 I1 R1 z1 => r1 = some (vI (an I o).1) ∧ T1 = T ∧ N1 = N ∧ I1 = (an I o).2 ∧ R1 = R ∧ z1 = z) 32 [vR o, vI ((I o 2)), vI x] [] T N (ax_f B (o + 7) 0 x (fun _ => 0)) R z 0 0 := by
    intro n
    induction n with
    | zero =>
      intro x B hn h0 h1 hB hs0
      have hx : x = 4 := by omega
      refine x_iload_n (pc := 32) hC dX12_anew_32 rfl ?_
      refine x_iconst (pc := 33) hC dX12_anew_33 ?_
      refine x_icmp_ge (pc := 34) hC 50 dX12_anew_34 (by decide) (by omega) (by omega) (fun b34 => ?_) (fun b34 => ?_)
      · refine x_aload_n (pc := 50) hC dX12_anew_50 rfl ?_
        refine x_iconst (pc := 51) hC dX12_anew_51 ?_
        refine x_putI (pc := 52) hC pf_X12_219 dX12_anew_52 M.1 (by decide) ?_
        refine x_iconst (pc := 55) hC dX12_anew_55 ?_
        refine x_istore_n (pc := 56) hC dX12_anew_56 (Nat.le_of_ble_eq_true rfl) ?_
        dsimp only [List.set]
        have hx : x = 4 := by omega
        rw [hx]
        have := l2 _ 0 (ax_u (ax_f B (o + 7) 0 4 (fun _ => 0)) o 30 0) (Nat.le_refl _) (by omega) (by omega) hB hs0
        rw [axf_0] at this
        exact this
      · omega
    | succ n ih =>
      intro x B hn h0 h1 hB hs0
      refine x_iload_n (pc := 32) hC dX12_anew_32 rfl ?_
      refine x_iconst (pc := 33) hC dX12_anew_33 ?_
      refine x_icmp_ge (pc := 34) hC 50 dX12_anew_34 (by decide) (by omega) (by omega) (fun b34 => ?_) (fun b34 => ?_)
      · refine x_aload_n (pc := 50) hC dX12_anew_50 rfl ?_
        refine x_iconst (pc := 51) hC dX12_anew_51 ?_
        refine x_putI (pc := 52) hC pf_X12_219 dX12_anew_52 M.1 (by decide) ?_
        refine x_iconst (pc := 55) hC dX12_anew_55 ?_
        refine x_istore_n (pc := 56) hC dX12_anew_56 (Nat.le_of_ble_eq_true rfl) ?_
        dsimp only [List.set]
        have hx : x = 4 := by omega
        rw [hx]
        have := l2 _ 0 (ax_u (ax_f B (o + 7) 0 4 (fun _ => 0)) o 30 0) (Nat.le_refl _) (by omega) (by omega) hB hs0
        rw [axf_0] at this
        exact this
      · refine x_aload_n (pc := 37) hC dX12_anew_37 rfl ?_
        refine x_getO (pc := 38) hC gf_X12_28 dX12_anew_38 M.1 (mo_tips M).1 ?_
        refine x_iload_n (pc := 41) hC dX12_anew_41 rfl ?_
        refine x_iconst (pc := 42) hC dX12_anew_42 ?_
        refine x_iast (pc := 43) hC dX12_anew_43 (mo_tips M).2.1 (by omega) (by rw [(mo_tips M).2.2]; omega) ?_
        refine x_iinc (pc := 44) hC dX12_anew_44 rfl ?_
        dsimp only [List.set]
        refine x_goto (pc := 47) hC 32 dX12_anew_47 (by decide) ?_
        rw [axf_step h0 (by omega) rfl]
        exact ih (x + 1) B (by omega) (by omega) (by omega) hB hs0
  refine x_aload_n (pc := 0) hC dX12_anew_0 rfl ?_
  refine x_getI (pc := 1) hC gf_X12_189 dX12_anew_1 M.1 ?_
  refine x_if_eq (pc := 4) hC 10 dX12_anew_4 (by decide) (by omega) (fun b4 => ?_) (fun b4 => ?_)
  · refine x_aload_n (pc := 10) hC dX12_anew_10 rfl ?_
    refine x_getI (pc := 11) hC gf_X12_129 dX12_anew_11 M.1 ?_
    refine x_istore_n (pc := 14) hC dX12_anew_14 (Nat.le_of_ble_eq_true rfl) ?_
    dsimp only [List.set]
    refine x_aload_n (pc := 15) hC dX12_anew_15 rfl ?_
    refine x_iconst (pc := 16) hC dX12_anew_16 ?_
    refine x_putI (pc := 17) hC pf_X12_129 dX12_anew_17 M.1 (by decide) ?_
    refine x_aload_n (pc := 20) hC dX12_anew_20 rfl ?_
    refine x_iconst (pc := 21) hC dX12_anew_21 ?_
    refine x_bipush (pc := 22) hC dX12_anew_22 (by decide) ?_
    refine x_bipush (pc := 24) hC dX12_anew_24 (by decide) ?_
    refine x_mV (pc := 26) hC cv_X12_118 dX12_anew_26 (m_made M ⟨by rw [axu_s]; decide, by rw [axu_s]; decide⟩ (by decide) (by decide)) M.1 rfl (by decide) rfl rfl (Nat.le_of_ble_eq_true rfl) ?_
    refine x_pop (pc := 29) hC dX12_anew_29 rfl ?_
    refine x_iconst (pc := 30) hC dX12_anew_30 ?_
    refine x_istore_n (pc := 31) hC dX12_anew_31 (Nat.le_of_ble_eq_true rfl) ?_
    dsimp only [List.set]
    have := l1 _ 0 (mdI (ax_u I o 2 0) o 0 (-9) (-9)) (Nat.le_refl _) (by omega) (by omega) rfl b4
    rw [axf_0] at this
    exact this
  · refine x_bipush (pc := 7) hC dX12_anew_7 (by decide) ?_
    refine x_iret (pc := 9) hC rfl dX12_anew_9 ?_
    exact ⟨by unfold an; rw [if_neg b4], rfl, rfl, by unfold an; rw [if_neg b4], rfl, rfl⟩

set_option maxHeartbeats 4000000 in
set_option maxRecDepth 100000 in
theorem m_areLines {G : ax_G} {T : Nat → Nat} {N : Nat → Int} {I : Nat → Int → Int} {R : Nat → Int → Option Nat} {z o : Nat} (M : axMo T N R o) {s m : Int} (hS : miS I o) (hs : 0 ≤ s ∧ s < 5) (hm : ax_r m) : axE G YX12_areLines 1 [vR o, vI s, vI m] T N I R z (some (vI (bI (alP (slL I o s) m)))) I := by

  refine ax_enter (by decide) (Nat.le_of_ble_eq_true rfl) (ax_cat rfl) (fun f hC => ?_)
  show axX G f 0 0 _ 0 [vR o, vI s, vI m, vU, vU] [] T N I R z 0 0
  have hz := hS.2.1 s
  have hlen : ((slL I o s).length : Int) = I (o + 32) s := by unfold slL; rw [seg_len]; omega
  have loop : ∀ (n : Nat) (x : Int), (I (o + 32) s - x).toNat ≤ n → 0 ≤ x → x ≤ I (o + 32) s → axX G f 0 0 (fun r1 T1 N1 I1 R1 z1 => r1 = some (vI (bI (alP (slL I o s) m))) ∧ T1 = T ∧ N1 = N ∧ I1 = I ∧ R1 = R ∧ z1 = z) 19 [vR o, vI s, vI m, vI (bI (I (o + 32) s ≤ m ∧ lnB (seg (I (o + 33)) (24 * s) (24 * s + x)))), vI x] [] T N I R z 0 0 := by
    intro n
    induction n with
    | zero =>
      intro x hn h0 h1
      refine x_iload (pc := 19) hC dX12_areLines_19 rfl ?_
      refine x_aload_n (pc := 21) hC dX12_areLines_21 rfl ?_
      refine x_getO (pc := 22) hC gf_X12_103 dX12_areLines_22 M.1 (mo_slotSize M).1 ?_
      refine x_iload_n (pc := 25) hC dX12_areLines_25 rfl ?_
      refine x_iald (pc := 26) hC dX12_areLines_26 (mo_slotSize M).2.1 (by omega) (by rw [(mo_slotSize M).2.2]; omega) ?_
      refine x_icmp_ge (pc := 27) hC 67 dX12_areLines_27 (by decide) (by omega) (by omega) (fun b27 => ?_) (fun b27 => ?_)
      · refine x_iload_n (pc := 67) hC dX12_areLines_67 rfl ?_
        refine x_zretB (pc := 68) hC rfl dX12_areLines_68 ?_
        have hx : x = I (o + 32) s := by omega
        refine ⟨?_, rfl, rfl, rfl, rfl, rfl⟩
        have e : (I (o + 32) s ≤ m ∧ lnB (seg (I (o + 33)) (24 * s) (24 * s + x))) ↔ alP (slL I o s) m := by
          unfold alP
          rw [hlen, hx]
          exact Iff.rfl
        rw [bI_c e]
      · omega
    | succ n ih =>
      intro x hn h0 h1
      have hcr := hS.2.2.1 (24 * s + x)
      have hsn := seg_snoc (f := I (o + 33)) (i := 24 * s) (j := 24 * s + x) (by omega)
      have hih := fun h => ih (x + 1) (by omega) (by omega) h
      rw [show 24 * s + (x + 1) = 24 * s + x + 1 by omega, hsn] at hih
      have et : (I (o + 32) s ≤ m ∧ lnB (seg (I (o + 33)) (24 * s) (24 * s + x) ++ [I (o + 33) (24 * s + x)])) → bI (I (o + 32) s ≤ m ∧ lnB (seg (I (o + 33)) (24 * s) (24 * s + x) ++ [I (o + 33) (24 * s + x)])) = 1 := fun h => bI_t h
      have ef : ¬ (I (o + 32) s ≤ m ∧ lnB (seg (I (o + 33)) (24 * s) (24 * s + x) ++ [I (o + 33) (24 * s + x)])) → bI (I (o + 32) s ≤ m ∧ lnB (seg (I (o + 33)) (24 * s) (24 * s + x) ++ [I (o + 33) (24 * s + x)])) = 0 := fun h => bI_f h
      refine x_iload (pc := 19) hC dX12_areLines_19 rfl ?_
      refine x_aload_n (pc := 21) hC dX12_areLines_21 rfl ?_
      refine x_getO (pc := 22) hC gf_X12_103 dX12_areLines_22 M.1 (mo_slotSize M).1 ?_
      refine x_iload_n (pc := 25) hC dX12_areLines_25 rfl ?_
      refine x_iald (pc := 26) hC dX12_areLines_26 (mo_slotSize M).2.1 (by omega) (by rw [(mo_slotSize M).2.2]; omega) ?_
      refine x_icmp_ge (pc := 27) hC 67 dX12_areLines_27 (by decide) (by omega) (by omega) (fun b27 => ?_) (fun b27 => ?_)
      · refine x_iload_n (pc := 67) hC dX12_areLines_67 rfl ?_
        refine x_zretB (pc := 68) hC rfl dX12_areLines_68 ?_
        have hx : x = I (o + 32) s := by omega
        refine ⟨?_, rfl, rfl, rfl, rfl, rfl⟩
        have e : (I (o + 32) s ≤ m ∧ lnB (seg (I (o + 33)) (24 * s) (24 * s + x))) ↔ alP (slL I o s) m := by
          unfold alP
          rw [hlen, hx]
          exact Iff.rfl
        rw [bI_c e]
      · refine x_iload_n (pc := 30) hC dX12_areLines_30 rfl ?_
        refine x_ifB_eq (pc := 31) hC 59 dX12_areLines_31 (by decide) (fun b31 => ?_) (fun b31 => ?_)
        · refine x_iconst (pc := 59) hC dX12_areLines_59 ?_
          refine x_istore_n (pc := 60) hC dX12_areLines_60 (Nat.le_of_ble_eq_true rfl) ?_
          dsimp only [List.set]
          refine x_iinc (pc := 61) hC dX12_areLines_61 rfl ?_
          dsimp only [List.set]
          refine x_goto (pc := 64) hC 19 dX12_areLines_64 (by decide) ?_
          first
          | (have := hih (by omega)
             rw [et ⟨b31.1, fun v hv => (List.mem_append.mp hv).elim (b31.2 v) (fun h => by rw [List.mem_singleton.mp h]; omega)⟩] at this
             exact this)
          | (have := hih (by omega)
             rw [ef (fun h => b31 ⟨h.1, fun v hv => h.2 v (List.mem_append_left _ hv)⟩)] at this
             exact this)
          | (have := hih (by omega)
             rw [ef (fun h => by have := h.2 (I (o + 33) (24 * s + x)) (List.mem_append_right _ (List.mem_singleton.mpr rfl)); omega)] at this
             exact this)
        · refine x_aload_n (pc := 34) hC dX12_areLines_34 rfl ?_
          refine x_getO (pc := 35) hC gf_X12_106 dX12_areLines_35 M.1 (mo_cells M).1 ?_
          refine x_bipush (pc := 38) hC dX12_areLines_38 (by decide) ?_
          refine x_iload_n (pc := 40) hC dX12_areLines_40 rfl ?_
          refine x_imul (pc := 41) hC dX12_areLines_41 ?_
          refine x_iload (pc := 42) hC dX12_areLines_42 rfl ?_
          refine x_iadd (pc := 44) hC dX12_areLines_44 ?_
          refine x_iald (pc := 45) hC dX12_areLines_45 (mo_cells M).2.1 (by omega) (by rw [(mo_cells M).2.2]; omega) ?_
          refine x_iconst (pc := 46) hC dX12_areLines_46 ?_
          refine x_bipush (pc := 47) hC dX12_areLines_47 (by decide) ?_
          refine x_mS (pc := 49) hC cs_X12_139 dX12_areLines_49 (m_within hcr (by decide) (by decide)) rfl (by decide) rfl rfl (Nat.le_of_ble_eq_true rfl) ?_
          refine x_ifB_eq (pc := 52) hC 59 dX12_areLines_52 (by decide) (fun b52 => ?_) (fun b52 => ?_)
          · refine x_iconst (pc := 59) hC dX12_areLines_59 ?_
            refine x_istore_n (pc := 60) hC dX12_areLines_60 (Nat.le_of_ble_eq_true rfl) ?_
            dsimp only [List.set]
            refine x_iinc (pc := 61) hC dX12_areLines_61 rfl ?_
            dsimp only [List.set]
            refine x_goto (pc := 64) hC 19 dX12_areLines_64 (by decide) ?_
            first
            | (have := hih (by omega)
               rw [et ⟨b31.1, fun v hv => (List.mem_append.mp hv).elim (b31.2 v) (fun h => by rw [List.mem_singleton.mp h]; omega)⟩] at this
               exact this)
            | (have := hih (by omega)
               rw [ef (fun h => b31 ⟨h.1, fun v hv => h.2 v (List.mem_append_left _ hv)⟩)] at this
               exact this)
            | (have := hih (by omega)
               rw [ef (fun h => by have := h.2 (I (o + 33) (24 * s + x)) (List.mem_append_right _ (List.mem_singleton.mpr rfl)); omega)] at this
               exact this)
          · refine x_iconst (pc := 55) hC dX12_areLines_55 ?_
            refine x_goto (pc := 56) hC 60 dX12_areLines_56 (by decide) ?_
            refine x_istore_n (pc := 60) hC dX12_areLines_60 (Nat.le_of_ble_eq_true rfl) ?_
            dsimp only [List.set]
            refine x_iinc (pc := 61) hC dX12_areLines_61 rfl ?_
            dsimp only [List.set]
            refine x_goto (pc := 64) hC 19 dX12_areLines_64 (by decide) ?_
            first
            | (have := hih (by omega)
               rw [et ⟨b31.1, fun v hv => (List.mem_append.mp hv).elim (b31.2 v) (fun h => by rw [List.mem_singleton.mp h]; omega)⟩] at this
               exact this)
            | (have := hih (by omega)
               rw [ef (fun h => b31 ⟨h.1, fun v hv => h.2 v (List.mem_append_left _ hv)⟩)] at this
               exact this)
            | (have := hih (by omega)
               rw [ef (fun h => by have := h.2 (I (o + 33) (24 * s + x)) (List.mem_append_right _ (List.mem_singleton.mpr rfl)); omega)] at this
               exact this)
  refine x_aload_n (pc := 0) hC dX12_areLines_0 rfl ?_
  refine x_getO (pc := 1) hC gf_X12_103 dX12_areLines_1 M.1 (mo_slotSize M).1 ?_
  refine x_iload_n (pc := 4) hC dX12_areLines_4 rfl ?_
  refine x_iald (pc := 5) hC dX12_areLines_5 (mo_slotSize M).2.1 (by omega) (by rw [(mo_slotSize M).2.2]; omega) ?_
  refine x_iload_n (pc := 6) hC dX12_areLines_6 rfl ?_
  refine x_icmp_gt (pc := 7) hC 14 dX12_areLines_7 (by decide) (by omega) (by omega) (fun b7 => ?_) (fun b7 => ?_)
  · refine x_iconst (pc := 14) hC dX12_areLines_14 ?_
    refine x_istore_n (pc := 15) hC dX12_areLines_15 (Nat.le_of_ble_eq_true rfl) ?_
    dsimp only [List.set]
    refine x_iconst (pc := 16) hC dX12_areLines_16 ?_
    refine x_istore (pc := 17) hC dX12_areLines_17 (Nat.le_of_ble_eq_true rfl) ?_
    dsimp only [List.set]
    have := loop _ 0 (Nat.le_refl _) (by omega) (by omega)
    rw [Int.add_zero, seg_nil (Int.le_refl _)] at this
    first
    | (rw [show bI (I (o + 32) s ≤ m ∧ lnB []) = 1 from bI_t ⟨by omega, fun v hv => by simp at hv⟩] at this; exact this)
    | (rw [show bI (I (o + 32) s ≤ m ∧ lnB []) = 0 from bI_f (fun h => by omega)] at this; exact this)
  · refine x_iconst (pc := 10) hC dX12_areLines_10 ?_
    refine x_goto (pc := 11) hC 15 dX12_areLines_11 (by decide) ?_
    refine x_istore_n (pc := 15) hC dX12_areLines_15 (Nat.le_of_ble_eq_true rfl) ?_
    dsimp only [List.set]
    refine x_iconst (pc := 16) hC dX12_areLines_16 ?_
    refine x_istore (pc := 17) hC dX12_areLines_17 (Nat.le_of_ble_eq_true rfl) ?_
    dsimp only [List.set]
    have := loop _ 0 (Nat.le_refl _) (by omega) (by omega)
    rw [Int.add_zero, seg_nil (Int.le_refl _)] at this
    first
    | (rw [show bI (I (o + 32) s ≤ m ∧ lnB []) = 1 from bI_t ⟨by omega, fun v hv => by simp at hv⟩] at this; exact this)
    | (rw [show bI (I (o + 32) s ≤ m ∧ lnB []) = 0 from bI_f (fun h => by omega)] at this; exact this)

