/-! THE REFERENCE: its constructor -/
theorem ax_mo {G : ax_G} {f : ax_F} {mc ms : Nat} {Q : ax_P} {pc : Nat} {L st : List ax_V} {T : Nat → Nat} {N : Nat → Int} {I : Nat → Int → Int} {R : Nat → Int → Option Nat} {z k n o : Nat} (M : axMo T N R o) (kk : axMo T N R o → axX G f mc ms Q pc L st T N I R z k n) : axX G f mc ms Q pc L st T N I R z k n := kk M
theorem mo_c {T : Nat → Nat} {N : Nat → Int} {R : Nat → Int → Option Nat} {o : Nat} {l : List (Int × Nat × Int)} {kf len : Int} {off : Nat} (h1 : R o kf = some (o + off)) (h2 : T (o + off) = 13) (h3 : N (o + off) = len) (hl : ∀ q ∈ l, R o q.1 = some (o + q.2.1) ∧ T (o + q.2.1) = 13 ∧ N (o + q.2.1) = q.2.2) : ∀ q ∈ (kf, off, len) :: l, R o q.1 = some (o + q.2.1) ∧ T (o + q.2.1) = 13 ∧ N (o + q.2.1) = q.2.2 := by
  intro q hq
  rcases List.mem_cons.mp hq with h9 | h9
  · rw [h9]; exact ⟨h1, h2, h3⟩
  · exact hl q h9
/-- the numbers of a new reference: I0 before, k arrays made -/
def zrM (I0 I1 : Nat → Int → Int) (o k : Nat) : Prop := (∀ q, q < o → I1 q = I0 q) ∧ (∀ j, I1 o j = 0) ∧ (∀ q, o < q → q ≤ o + k → q ≠ o + 31 → ∀ j, I1 q j = 0) ∧ (31 ≤ k → (∀ j, 0 ≤ j → j < 5 → I1 (o + 31) j = -9) ∧ ∀ j, I1 (o + 31) j = -9 ∨ I1 (o + 31) j = 0)
theorem zrM_0 {I0 : Nat → Int → Int} {o : Nat} (h : ∀ j, I0 o j = 0) : zrM I0 I0 o 0 := ⟨fun _ _ => rfl, h, fun q h1 h2 => by omega, fun h1 => by omega⟩
theorem zrM_s {I0 I1 : Nat → Int → Int} {o k x : Nat} (h : zrM I0 I1 o k) (hx : x = o + k + 1) (hk : k ≠ 30) : zrM I0 (ax_n I1 x (fun _ => 0)) o (k + 1) := by
  obtain ⟨h1, h2, h3, h4⟩ := h
  refine ⟨fun q hq => ?_, fun j => ?_, fun q q1 q2 q3 j => ?_, fun q1 => ?_⟩
  · rw [axn_a (by omega)]; exact h1 q hq
  · rw [axn_a (by omega)]; exact h2 j
  · by_cases e1 : q = x
    · rw [e1, axn_s]
    · rw [axn_a e1]; exact h3 q q1 (by omega) q3 j
  · rw [axn_a (by omega)]; exact h4 (by omega)
theorem zrM_9 {I0 I1 : Nat → Int → Int} {o x : Nat} (h : zrM I0 I1 o 30) (hx : x = o + 31) : zrM I0 (ax_u (ax_u (ax_u (ax_u (ax_u (ax_n I1 x (fun _ => 0)) x 0 (-9)) x 1 (-9)) x 2 (-9)) x 3 (-9)) x 4 (-9)) o 31 := by
  obtain ⟨h1, h2, h3, h4⟩ := h
  refine ⟨fun q hq => ?_, fun j => ?_, fun q q1 q2 q3 j => ?_, fun q1 => ⟨fun j j0 j1 => ?_, fun j => ?_⟩⟩
  · rw [axu_row (by omega), axu_row (by omega), axu_row (by omega), axu_row (by omega), axu_row (by omega), axn_a (by omega)]; exact h1 q hq
  · rw [axu_a (by omega), axu_a (by omega), axu_a (by omega), axu_a (by omega), axu_a (by omega), axn_a (by omega)]; exact h2 j
  · rw [axu_a (by omega), axu_a (by omega), axu_a (by omega), axu_a (by omega), axu_a (by omega), axn_a (by omega)]; exact h3 q q1 (by omega) q3 j
  · subst hx
    by_cases e4 : j = 4
    · rw [e4, axu_s]
    rw [axu_j e4]
    by_cases e3 : j = 3
    · rw [e3, axu_s]
    rw [axu_j e3]
    by_cases e2 : j = 2
    · rw [e2, axu_s]
    rw [axu_j e2]
    by_cases e1 : j = 1
    · rw [e1, axu_s]
    rw [axu_j e1]
    have e0 : j = 0 := by omega
    rw [e0, axu_s]
  · unfold ax_u ax_n
    repeat' split
    all_goals first | exact Or.inl rfl | exact Or.inr rfl | (exfalso; omega)

set_option maxHeartbeats 4000000 in
set_option maxRecDepth 100000 in
theorem m_init12 {G : ax_G} {T : Nat → Nat} {N : Nat → Int} {I : Nat → Int → Int} {R : Nat → Int → Option Nat} {z : Nat} {o : Nat} (ho : T o = 12) (hz : z = o + 1) (hI : ∀ j, I o j = 0) : axM G YX12_init 2 [vR o] T N I R z 36 2674 (fun r1 T1 N1 I1 R1 z1 => r1 = none ∧ z1 = o + 37 ∧ grK o (o + 37) T N I R T1 N1 I1 R1 ∧ axMo T1 N1 R1 o ∧ ∃ I0, zrM I I0 o 36 ∧ I1 = mdI I0 o 0 (-9) (-9)) := by

  refine ax_enter (by decide) (Nat.le_of_ble_eq_true rfl) (ax_cat rfl) (fun f hC => ?_)
  show axX G f 36 2674 _ 0 [vR o] [] T N I R z 36 2674
  subst hz
  refine x_aload_n (pc := 0) hC dX12_init_0 rfl ?_
  refine x_objInit (pc := 1) hC oi_X12_1 w_oinst w_ocode dX12_init_1 (by decide) rfl (Nat.le_of_ble_eq_true rfl) ?_
  refine x_aload_n (pc := 4) hC dX12_init_4 rfl ?_
  refine x_bipush (pc := 5) hC dX12_init_5 (by decide) ?_
  refine x_newi (pc := 7) hC w_arrI dX12_init_7 (by omega) (by omega) (by omega) (by omega) ?_
  rw [show o + 1 + 1 = o + 2 from rfl]
  refine x_putO (pc := 9) hC pf_X12_7 dX12_init_9 (Or.inr ⟨_, rfl⟩) (by rw [axn_a (by omega)]; exact ho) (fun _ => rfl) ?_
  refine x_aload_n (pc := 12) hC dX12_init_12 rfl ?_
  refine x_bipush (pc := 13) hC dX12_init_13 (by decide) ?_
  refine x_newi (pc := 15) hC w_arrI dX12_init_15 (by omega) (by omega) (by omega) (by omega) ?_
  rw [show o + 2 + 1 = o + 3 from rfl]
  refine x_putO (pc := 17) hC pf_X12_13 dX12_init_17 (Or.inr ⟨_, rfl⟩) (by rw [axn_a (by omega), axn_a (by omega)]; exact ho) (fun _ => rfl) ?_
  refine x_aload_n (pc := 20) hC dX12_init_20 rfl ?_
  refine x_bipush (pc := 21) hC dX12_init_21 (by decide) ?_
  refine x_newi (pc := 23) hC w_arrI dX12_init_23 (by omega) (by omega) (by omega) (by omega) ?_
  rw [show o + 3 + 1 = o + 4 from rfl]
  refine x_putO (pc := 25) hC pf_X12_16 dX12_init_25 (Or.inr ⟨_, rfl⟩) (by rw [axn_a (by omega), axn_a (by omega), axn_a (by omega)]; exact ho) (fun _ => rfl) ?_
  refine x_aload_n (pc := 28) hC dX12_init_28 rfl ?_
  refine x_bipush (pc := 29) hC dX12_init_29 (by decide) ?_
  refine x_newi (pc := 31) hC w_arrI dX12_init_31 (by omega) (by omega) (by omega) (by omega) ?_
  rw [show o + 4 + 1 = o + 5 from rfl]
  refine x_putO (pc := 33) hC pf_X12_19 dX12_init_33 (Or.inr ⟨_, rfl⟩) (by rw [axn_a (by omega), axn_a (by omega), axn_a (by omega), axn_a (by omega)]; exact ho) (fun _ => rfl) ?_
  refine x_aload_n (pc := 36) hC dX12_init_36 rfl ?_
  refine x_sipush (pc := 37) hC dX12_init_37 (by decide) ?_
  refine x_newi (pc := 40) hC w_arrI dX12_init_40 (by omega) (by omega) (by omega) (by omega) ?_
  rw [show o + 5 + 1 = o + 6 from rfl]
  refine x_putO (pc := 42) hC pf_X12_22 dX12_init_42 (Or.inr ⟨_, rfl⟩) (by rw [axn_a (by omega), axn_a (by omega), axn_a (by omega), axn_a (by omega), axn_a (by omega)]; exact ho) (fun _ => rfl) ?_
  refine x_aload_n (pc := 45) hC dX12_init_45 rfl ?_
  refine x_bipush (pc := 46) hC dX12_init_46 (by decide) ?_
  refine x_newi (pc := 48) hC w_arrI dX12_init_48 (by omega) (by omega) (by omega) (by omega) ?_
  rw [show o + 6 + 1 = o + 7 from rfl]
  refine x_putO (pc := 50) hC pf_X12_25 dX12_init_50 (Or.inr ⟨_, rfl⟩) (by rw [axn_a (by omega), axn_a (by omega), axn_a (by omega), axn_a (by omega), axn_a (by omega), axn_a (by omega)]; exact ho) (fun _ => rfl) ?_
  refine x_aload_n (pc := 53) hC dX12_init_53 rfl ?_
  refine x_iconst (pc := 54) hC dX12_init_54 ?_
  refine x_newi (pc := 55) hC w_arrI dX12_init_55 (by omega) (by omega) (by omega) (by omega) ?_
  rw [show o + 7 + 1 = o + 8 from rfl]
  refine x_putO (pc := 57) hC pf_X12_28 dX12_init_57 (Or.inr ⟨_, rfl⟩) (by rw [axn_a (by omega), axn_a (by omega), axn_a (by omega), axn_a (by omega), axn_a (by omega), axn_a (by omega), axn_a (by omega)]; exact ho) (fun _ => rfl) ?_
  refine x_aload_n (pc := 60) hC dX12_init_60 rfl ?_
  refine x_sipush (pc := 61) hC dX12_init_61 (by decide) ?_
  refine x_newi (pc := 64) hC w_arrI dX12_init_64 (by omega) (by omega) (by omega) (by omega) ?_
  rw [show o + 8 + 1 = o + 9 from rfl]
  refine x_putO (pc := 66) hC pf_X12_31 dX12_init_66 (Or.inr ⟨_, rfl⟩) (by rw [axn_a (by omega), axn_a (by omega), axn_a (by omega), axn_a (by omega), axn_a (by omega), axn_a (by omega), axn_a (by omega), axn_a (by omega)]; exact ho) (fun _ => rfl) ?_
  refine x_aload_n (pc := 69) hC dX12_init_69 rfl ?_
  refine x_bipush (pc := 70) hC dX12_init_70 (by decide) ?_
  refine x_newi (pc := 72) hC w_arrI dX12_init_72 (by omega) (by omega) (by omega) (by omega) ?_
  rw [show o + 9 + 1 = o + 10 from rfl]
  refine x_putO (pc := 74) hC pf_X12_34 dX12_init_74 (Or.inr ⟨_, rfl⟩) (by rw [axn_a (by omega), axn_a (by omega), axn_a (by omega), axn_a (by omega), axn_a (by omega), axn_a (by omega), axn_a (by omega), axn_a (by omega), axn_a (by omega)]; exact ho) (fun _ => rfl) ?_
  refine x_aload_n (pc := 77) hC dX12_init_77 rfl ?_
  refine x_bipush (pc := 78) hC dX12_init_78 (by decide) ?_
  refine x_newi (pc := 80) hC w_arrI dX12_init_80 (by omega) (by omega) (by omega) (by omega) ?_
  rw [show o + 10 + 1 = o + 11 from rfl]
  refine x_putO (pc := 82) hC pf_X12_37 dX12_init_82 (Or.inr ⟨_, rfl⟩) (by rw [axn_a (by omega), axn_a (by omega), axn_a (by omega), axn_a (by omega), axn_a (by omega), axn_a (by omega), axn_a (by omega), axn_a (by omega), axn_a (by omega), axn_a (by omega)]; exact ho) (fun _ => rfl) ?_
  refine x_aload_n (pc := 85) hC dX12_init_85 rfl ?_
  refine x_bipush (pc := 86) hC dX12_init_86 (by decide) ?_
  refine x_newi (pc := 88) hC w_arrI dX12_init_88 (by omega) (by omega) (by omega) (by omega) ?_
  rw [show o + 11 + 1 = o + 12 from rfl]
  refine x_putO (pc := 90) hC pf_X12_40 dX12_init_90 (Or.inr ⟨_, rfl⟩) (by rw [axn_a (by omega), axn_a (by omega), axn_a (by omega), axn_a (by omega), axn_a (by omega), axn_a (by omega), axn_a (by omega), axn_a (by omega), axn_a (by omega), axn_a (by omega), axn_a (by omega)]; exact ho) (fun _ => rfl) ?_
  refine x_aload_n (pc := 93) hC dX12_init_93 rfl ?_
  refine x_bipush (pc := 94) hC dX12_init_94 (by decide) ?_
  refine x_newi (pc := 96) hC w_arrI dX12_init_96 (by omega) (by omega) (by omega) (by omega) ?_
  rw [show o + 12 + 1 = o + 13 from rfl]
  refine x_putO (pc := 98) hC pf_X12_43 dX12_init_98 (Or.inr ⟨_, rfl⟩) (by rw [axn_a (by omega), axn_a (by omega), axn_a (by omega), axn_a (by omega), axn_a (by omega), axn_a (by omega), axn_a (by omega), axn_a (by omega), axn_a (by omega), axn_a (by omega), axn_a (by omega), axn_a (by omega)]; exact ho) (fun _ => rfl) ?_
  refine x_aload_n (pc := 101) hC dX12_init_101 rfl ?_
  refine x_bipush (pc := 102) hC dX12_init_102 (by decide) ?_
  refine x_newi (pc := 104) hC w_arrI dX12_init_104 (by omega) (by omega) (by omega) (by omega) ?_
  rw [show o + 13 + 1 = o + 14 from rfl]
  refine x_putO (pc := 106) hC pf_X12_46 dX12_init_106 (Or.inr ⟨_, rfl⟩) (by rw [axn_a (by omega), axn_a (by omega), axn_a (by omega), axn_a (by omega), axn_a (by omega), axn_a (by omega), axn_a (by omega), axn_a (by omega), axn_a (by omega), axn_a (by omega), axn_a (by omega), axn_a (by omega), axn_a (by omega)]; exact ho) (fun _ => rfl) ?_
  refine x_aload_n (pc := 109) hC dX12_init_109 rfl ?_
  refine x_sipush (pc := 110) hC dX12_init_110 (by decide) ?_
  refine x_newi (pc := 113) hC w_arrI dX12_init_113 (by omega) (by omega) (by omega) (by omega) ?_
  rw [show o + 14 + 1 = o + 15 from rfl]
  refine x_putO (pc := 115) hC pf_X12_49 dX12_init_115 (Or.inr ⟨_, rfl⟩) (by rw [axn_a (by omega), axn_a (by omega), axn_a (by omega), axn_a (by omega), axn_a (by omega), axn_a (by omega), axn_a (by omega), axn_a (by omega), axn_a (by omega), axn_a (by omega), axn_a (by omega), axn_a (by omega), axn_a (by omega), axn_a (by omega)]; exact ho) (fun _ => rfl) ?_
  refine x_aload_n (pc := 118) hC dX12_init_118 rfl ?_
  refine x_sipush (pc := 119) hC dX12_init_119 (by decide) ?_
  refine x_newi (pc := 122) hC w_arrI dX12_init_122 (by omega) (by omega) (by omega) (by omega) ?_
  rw [show o + 15 + 1 = o + 16 from rfl]
  refine x_putO (pc := 124) hC pf_X12_52 dX12_init_124 (Or.inr ⟨_, rfl⟩) (by rw [axn_a (by omega), axn_a (by omega), axn_a (by omega), axn_a (by omega), axn_a (by omega), axn_a (by omega), axn_a (by omega), axn_a (by omega), axn_a (by omega), axn_a (by omega), axn_a (by omega), axn_a (by omega), axn_a (by omega), axn_a (by omega), axn_a (by omega)]; exact ho) (fun _ => rfl) ?_
  refine x_aload_n (pc := 127) hC dX12_init_127 rfl ?_
  refine x_bipush (pc := 128) hC dX12_init_128 (by decide) ?_
  refine x_newi (pc := 130) hC w_arrI dX12_init_130 (by omega) (by omega) (by omega) (by omega) ?_
  rw [show o + 16 + 1 = o + 17 from rfl]
  refine x_putO (pc := 132) hC pf_X12_55 dX12_init_132 (Or.inr ⟨_, rfl⟩) (by rw [axn_a (by omega), axn_a (by omega), axn_a (by omega), axn_a (by omega), axn_a (by omega), axn_a (by omega), axn_a (by omega), axn_a (by omega), axn_a (by omega), axn_a (by omega), axn_a (by omega), axn_a (by omega), axn_a (by omega), axn_a (by omega), axn_a (by omega), axn_a (by omega)]; exact ho) (fun _ => rfl) ?_
  refine x_aload_n (pc := 135) hC dX12_init_135 rfl ?_
  refine x_bipush (pc := 136) hC dX12_init_136 (by decide) ?_
  refine x_newi (pc := 138) hC w_arrI dX12_init_138 (by omega) (by omega) (by omega) (by omega) ?_
  rw [show o + 17 + 1 = o + 18 from rfl]
  refine x_putO (pc := 140) hC pf_X12_58 dX12_init_140 (Or.inr ⟨_, rfl⟩) (by rw [axn_a (by omega), axn_a (by omega), axn_a (by omega), axn_a (by omega), axn_a (by omega), axn_a (by omega), axn_a (by omega), axn_a (by omega), axn_a (by omega), axn_a (by omega), axn_a (by omega), axn_a (by omega), axn_a (by omega), axn_a (by omega), axn_a (by omega), axn_a (by omega), axn_a (by omega)]; exact ho) (fun _ => rfl) ?_
  refine x_aload_n (pc := 143) hC dX12_init_143 rfl ?_
  refine x_bipush (pc := 144) hC dX12_init_144 (by decide) ?_
  refine x_newi (pc := 146) hC w_arrI dX12_init_146 (by omega) (by omega) (by omega) (by omega) ?_
  rw [show o + 18 + 1 = o + 19 from rfl]
  refine x_putO (pc := 148) hC pf_X12_61 dX12_init_148 (Or.inr ⟨_, rfl⟩) (by rw [axn_a (by omega), axn_a (by omega), axn_a (by omega), axn_a (by omega), axn_a (by omega), axn_a (by omega), axn_a (by omega), axn_a (by omega), axn_a (by omega), axn_a (by omega), axn_a (by omega), axn_a (by omega), axn_a (by omega), axn_a (by omega), axn_a (by omega), axn_a (by omega), axn_a (by omega), axn_a (by omega)]; exact ho) (fun _ => rfl) ?_
  refine x_aload_n (pc := 151) hC dX12_init_151 rfl ?_
  refine x_iconst (pc := 152) hC dX12_init_152 ?_
  refine x_newi (pc := 153) hC w_arrI dX12_init_153 (by omega) (by omega) (by omega) (by omega) ?_
  rw [show o + 19 + 1 = o + 20 from rfl]
  refine x_putO (pc := 155) hC pf_X12_64 dX12_init_155 (Or.inr ⟨_, rfl⟩) (by rw [axn_a (by omega), axn_a (by omega), axn_a (by omega), axn_a (by omega), axn_a (by omega), axn_a (by omega), axn_a (by omega), axn_a (by omega), axn_a (by omega), axn_a (by omega), axn_a (by omega), axn_a (by omega), axn_a (by omega), axn_a (by omega), axn_a (by omega), axn_a (by omega), axn_a (by omega), axn_a (by omega), axn_a (by omega)]; exact ho) (fun _ => rfl) ?_
  refine x_aload_n (pc := 158) hC dX12_init_158 rfl ?_
  refine x_sipush (pc := 159) hC dX12_init_159 (by decide) ?_
  refine x_newi (pc := 162) hC w_arrI dX12_init_162 (by omega) (by omega) (by omega) (by omega) ?_
  rw [show o + 20 + 1 = o + 21 from rfl]
  refine x_putO (pc := 164) hC pf_X12_67 dX12_init_164 (Or.inr ⟨_, rfl⟩) (by rw [axn_a (by omega), axn_a (by omega), axn_a (by omega), axn_a (by omega), axn_a (by omega), axn_a (by omega), axn_a (by omega), axn_a (by omega), axn_a (by omega), axn_a (by omega), axn_a (by omega), axn_a (by omega), axn_a (by omega), axn_a (by omega), axn_a (by omega), axn_a (by omega), axn_a (by omega), axn_a (by omega), axn_a (by omega), axn_a (by omega)]; exact ho) (fun _ => rfl) ?_
  refine x_aload_n (pc := 167) hC dX12_init_167 rfl ?_
  refine x_bipush (pc := 168) hC dX12_init_168 (by decide) ?_
  refine x_newi (pc := 170) hC w_arrI dX12_init_170 (by omega) (by omega) (by omega) (by omega) ?_
  rw [show o + 21 + 1 = o + 22 from rfl]
  refine x_putO (pc := 172) hC pf_X12_70 dX12_init_172 (Or.inr ⟨_, rfl⟩) (by rw [axn_a (by omega), axn_a (by omega), axn_a (by omega), axn_a (by omega), axn_a (by omega), axn_a (by omega), axn_a (by omega), axn_a (by omega), axn_a (by omega), axn_a (by omega), axn_a (by omega), axn_a (by omega), axn_a (by omega), axn_a (by omega), axn_a (by omega), axn_a (by omega), axn_a (by omega), axn_a (by omega), axn_a (by omega), axn_a (by omega), axn_a (by omega)]; exact ho) (fun _ => rfl) ?_
  refine x_aload_n (pc := 175) hC dX12_init_175 rfl ?_
  refine x_bipush (pc := 176) hC dX12_init_176 (by decide) ?_
  refine x_newi (pc := 178) hC w_arrI dX12_init_178 (by omega) (by omega) (by omega) (by omega) ?_
  rw [show o + 22 + 1 = o + 23 from rfl]
  refine x_putO (pc := 180) hC pf_X12_73 dX12_init_180 (Or.inr ⟨_, rfl⟩) (by rw [axn_a (by omega), axn_a (by omega), axn_a (by omega), axn_a (by omega), axn_a (by omega), axn_a (by omega), axn_a (by omega), axn_a (by omega), axn_a (by omega), axn_a (by omega), axn_a (by omega), axn_a (by omega), axn_a (by omega), axn_a (by omega), axn_a (by omega), axn_a (by omega), axn_a (by omega), axn_a (by omega), axn_a (by omega), axn_a (by omega), axn_a (by omega), axn_a (by omega)]; exact ho) (fun _ => rfl) ?_
  refine x_aload_n (pc := 183) hC dX12_init_183 rfl ?_
  refine x_bipush (pc := 184) hC dX12_init_184 (by decide) ?_
  refine x_newi (pc := 186) hC w_arrI dX12_init_186 (by omega) (by omega) (by omega) (by omega) ?_
  rw [show o + 23 + 1 = o + 24 from rfl]
  refine x_putO (pc := 188) hC pf_X12_76 dX12_init_188 (Or.inr ⟨_, rfl⟩) (by rw [axn_a (by omega), axn_a (by omega), axn_a (by omega), axn_a (by omega), axn_a (by omega), axn_a (by omega), axn_a (by omega), axn_a (by omega), axn_a (by omega), axn_a (by omega), axn_a (by omega), axn_a (by omega), axn_a (by omega), axn_a (by omega), axn_a (by omega), axn_a (by omega), axn_a (by omega), axn_a (by omega), axn_a (by omega), axn_a (by omega), axn_a (by omega), axn_a (by omega), axn_a (by omega)]; exact ho) (fun _ => rfl) ?_
  refine x_aload_n (pc := 191) hC dX12_init_191 rfl ?_
  refine x_sipush (pc := 192) hC dX12_init_192 (by decide) ?_
  refine x_newi (pc := 195) hC w_arrI dX12_init_195 (by omega) (by omega) (by omega) (by omega) ?_
  rw [show o + 24 + 1 = o + 25 from rfl]
  refine x_putO (pc := 197) hC pf_X12_79 dX12_init_197 (Or.inr ⟨_, rfl⟩) (by rw [axn_a (by omega), axn_a (by omega), axn_a (by omega), axn_a (by omega), axn_a (by omega), axn_a (by omega), axn_a (by omega), axn_a (by omega), axn_a (by omega), axn_a (by omega), axn_a (by omega), axn_a (by omega), axn_a (by omega), axn_a (by omega), axn_a (by omega), axn_a (by omega), axn_a (by omega), axn_a (by omega), axn_a (by omega), axn_a (by omega), axn_a (by omega), axn_a (by omega), axn_a (by omega), axn_a (by omega)]; exact ho) (fun _ => rfl) ?_
  refine x_aload_n (pc := 200) hC dX12_init_200 rfl ?_
  refine x_bipush (pc := 201) hC dX12_init_201 (by decide) ?_
  refine x_newi (pc := 203) hC w_arrI dX12_init_203 (by omega) (by omega) (by omega) (by omega) ?_
  rw [show o + 25 + 1 = o + 26 from rfl]
  refine x_putO (pc := 205) hC pf_X12_82 dX12_init_205 (Or.inr ⟨_, rfl⟩) (by rw [axn_a (by omega), axn_a (by omega), axn_a (by omega), axn_a (by omega), axn_a (by omega), axn_a (by omega), axn_a (by omega), axn_a (by omega), axn_a (by omega), axn_a (by omega), axn_a (by omega), axn_a (by omega), axn_a (by omega), axn_a (by omega), axn_a (by omega), axn_a (by omega), axn_a (by omega), axn_a (by omega), axn_a (by omega), axn_a (by omega), axn_a (by omega), axn_a (by omega), axn_a (by omega), axn_a (by omega), axn_a (by omega)]; exact ho) (fun _ => rfl) ?_
  refine x_aload_n (pc := 208) hC dX12_init_208 rfl ?_
  refine x_bipush (pc := 209) hC dX12_init_209 (by decide) ?_
  refine x_newi (pc := 211) hC w_arrI dX12_init_211 (by omega) (by omega) (by omega) (by omega) ?_
  rw [show o + 26 + 1 = o + 27 from rfl]
  refine x_putO (pc := 213) hC pf_X12_85 dX12_init_213 (Or.inr ⟨_, rfl⟩) (by rw [axn_a (by omega), axn_a (by omega), axn_a (by omega), axn_a (by omega), axn_a (by omega), axn_a (by omega), axn_a (by omega), axn_a (by omega), axn_a (by omega), axn_a (by omega), axn_a (by omega), axn_a (by omega), axn_a (by omega), axn_a (by omega), axn_a (by omega), axn_a (by omega), axn_a (by omega), axn_a (by omega), axn_a (by omega), axn_a (by omega), axn_a (by omega), axn_a (by omega), axn_a (by omega), axn_a (by omega), axn_a (by omega), axn_a (by omega)]; exact ho) (fun _ => rfl) ?_
  refine x_aload_n (pc := 216) hC dX12_init_216 rfl ?_
  refine x_bipush (pc := 217) hC dX12_init_217 (by decide) ?_
  refine x_newi (pc := 219) hC w_arrI dX12_init_219 (by omega) (by omega) (by omega) (by omega) ?_
  rw [show o + 27 + 1 = o + 28 from rfl]
  refine x_putO (pc := 221) hC pf_X12_88 dX12_init_221 (Or.inr ⟨_, rfl⟩) (by rw [axn_a (by omega), axn_a (by omega), axn_a (by omega), axn_a (by omega), axn_a (by omega), axn_a (by omega), axn_a (by omega), axn_a (by omega), axn_a (by omega), axn_a (by omega), axn_a (by omega), axn_a (by omega), axn_a (by omega), axn_a (by omega), axn_a (by omega), axn_a (by omega), axn_a (by omega), axn_a (by omega), axn_a (by omega), axn_a (by omega), axn_a (by omega), axn_a (by omega), axn_a (by omega), axn_a (by omega), axn_a (by omega), axn_a (by omega), axn_a (by omega)]; exact ho) (fun _ => rfl) ?_
  refine x_aload_n (pc := 224) hC dX12_init_224 rfl ?_
  refine x_bipush (pc := 225) hC dX12_init_225 (by decide) ?_
  refine x_newi (pc := 227) hC w_arrI dX12_init_227 (by omega) (by omega) (by omega) (by omega) ?_
  rw [show o + 28 + 1 = o + 29 from rfl]
  refine x_putO (pc := 229) hC pf_X12_91 dX12_init_229 (Or.inr ⟨_, rfl⟩) (by rw [axn_a (by omega), axn_a (by omega), axn_a (by omega), axn_a (by omega), axn_a (by omega), axn_a (by omega), axn_a (by omega), axn_a (by omega), axn_a (by omega), axn_a (by omega), axn_a (by omega), axn_a (by omega), axn_a (by omega), axn_a (by omega), axn_a (by omega), axn_a (by omega), axn_a (by omega), axn_a (by omega), axn_a (by omega), axn_a (by omega), axn_a (by omega), axn_a (by omega), axn_a (by omega), axn_a (by omega), axn_a (by omega), axn_a (by omega), axn_a (by omega), axn_a (by omega)]; exact ho) (fun _ => rfl) ?_
  refine x_aload_n (pc := 232) hC dX12_init_232 rfl ?_
  refine x_iconst (pc := 233) hC dX12_init_233 ?_
  refine x_newi (pc := 234) hC w_arrI dX12_init_234 (by omega) (by omega) (by omega) (by omega) ?_
  rw [show o + 29 + 1 = o + 30 from rfl]
  refine x_putO (pc := 236) hC pf_X12_94 dX12_init_236 (Or.inr ⟨_, rfl⟩) (by rw [axn_a (by omega), axn_a (by omega), axn_a (by omega), axn_a (by omega), axn_a (by omega), axn_a (by omega), axn_a (by omega), axn_a (by omega), axn_a (by omega), axn_a (by omega), axn_a (by omega), axn_a (by omega), axn_a (by omega), axn_a (by omega), axn_a (by omega), axn_a (by omega), axn_a (by omega), axn_a (by omega), axn_a (by omega), axn_a (by omega), axn_a (by omega), axn_a (by omega), axn_a (by omega), axn_a (by omega), axn_a (by omega), axn_a (by omega), axn_a (by omega), axn_a (by omega), axn_a (by omega)]; exact ho) (fun _ => rfl) ?_
  refine x_aload_n (pc := 239) hC dX12_init_239 rfl ?_
  refine x_iconst (pc := 240) hC dX12_init_240 ?_
  refine x_newi (pc := 241) hC w_arrI dX12_init_241 (by omega) (by omega) (by omega) (by omega) ?_
  rw [show o + 30 + 1 = o + 31 from rfl]
  refine x_putO (pc := 243) hC pf_X12_97 dX12_init_243 (Or.inr ⟨_, rfl⟩) (by rw [axn_a (by omega), axn_a (by omega), axn_a (by omega), axn_a (by omega), axn_a (by omega), axn_a (by omega), axn_a (by omega), axn_a (by omega), axn_a (by omega), axn_a (by omega), axn_a (by omega), axn_a (by omega), axn_a (by omega), axn_a (by omega), axn_a (by omega), axn_a (by omega), axn_a (by omega), axn_a (by omega), axn_a (by omega), axn_a (by omega), axn_a (by omega), axn_a (by omega), axn_a (by omega), axn_a (by omega), axn_a (by omega), axn_a (by omega), axn_a (by omega), axn_a (by omega), axn_a (by omega), axn_a (by omega)]; exact ho) (fun _ => rfl) ?_
  refine x_aload_n (pc := 246) hC dX12_init_246 rfl ?_
  refine x_iconst (pc := 247) hC dX12_init_247 ?_
  refine x_newi (pc := 248) hC w_arrI dX12_init_248 (by omega) (by omega) (by omega) (by omega) ?_
  rw [show o + 31 + 1 = o + 32 from rfl]
  refine x_dup (pc := 250) hC dX12_init_250 rfl ?_
  refine x_iconst (pc := 251) hC dX12_init_251 ?_
  refine x_bipush (pc := 252) hC dX12_init_252 (by decide) ?_
  refine x_iast (pc := 254) hC dX12_init_254 axn_s (by omega) (by rw [axn_s]; omega) ?_
  refine x_dup (pc := 255) hC dX12_init_255 rfl ?_
  refine x_iconst (pc := 256) hC dX12_init_256 ?_
  refine x_bipush (pc := 257) hC dX12_init_257 (by decide) ?_
  refine x_iast (pc := 259) hC dX12_init_259 axn_s (by omega) (by rw [axn_s]; omega) ?_
  refine x_dup (pc := 260) hC dX12_init_260 rfl ?_
  refine x_iconst (pc := 261) hC dX12_init_261 ?_
  refine x_bipush (pc := 262) hC dX12_init_262 (by decide) ?_
  refine x_iast (pc := 264) hC dX12_init_264 axn_s (by omega) (by rw [axn_s]; omega) ?_
  refine x_dup (pc := 265) hC dX12_init_265 rfl ?_
  refine x_iconst (pc := 266) hC dX12_init_266 ?_
  refine x_bipush (pc := 267) hC dX12_init_267 (by decide) ?_
  refine x_iast (pc := 269) hC dX12_init_269 axn_s (by omega) (by rw [axn_s]; omega) ?_
  refine x_dup (pc := 270) hC dX12_init_270 rfl ?_
  refine x_iconst (pc := 271) hC dX12_init_271 ?_
  refine x_bipush (pc := 272) hC dX12_init_272 (by decide) ?_
  refine x_iast (pc := 274) hC dX12_init_274 axn_s (by omega) (by rw [axn_s]; omega) ?_
  refine x_putO (pc := 275) hC pf_X12_100 dX12_init_275 (Or.inr ⟨_, rfl⟩) (by rw [axn_a (by omega), axn_a (by omega), axn_a (by omega), axn_a (by omega), axn_a (by omega), axn_a (by omega), axn_a (by omega), axn_a (by omega), axn_a (by omega), axn_a (by omega), axn_a (by omega), axn_a (by omega), axn_a (by omega), axn_a (by omega), axn_a (by omega), axn_a (by omega), axn_a (by omega), axn_a (by omega), axn_a (by omega), axn_a (by omega), axn_a (by omega), axn_a (by omega), axn_a (by omega), axn_a (by omega), axn_a (by omega), axn_a (by omega), axn_a (by omega), axn_a (by omega), axn_a (by omega), axn_a (by omega), axn_a (by omega)]; exact ho) (fun _ => rfl) ?_
  refine x_aload_n (pc := 278) hC dX12_init_278 rfl ?_
  refine x_iconst (pc := 279) hC dX12_init_279 ?_
  refine x_newi (pc := 280) hC w_arrI dX12_init_280 (by omega) (by omega) (by omega) (by omega) ?_
  rw [show o + 32 + 1 = o + 33 from rfl]
  refine x_putO (pc := 282) hC pf_X12_103 dX12_init_282 (Or.inr ⟨_, rfl⟩) (by rw [axn_a (by omega), axn_a (by omega), axn_a (by omega), axn_a (by omega), axn_a (by omega), axn_a (by omega), axn_a (by omega), axn_a (by omega), axn_a (by omega), axn_a (by omega), axn_a (by omega), axn_a (by omega), axn_a (by omega), axn_a (by omega), axn_a (by omega), axn_a (by omega), axn_a (by omega), axn_a (by omega), axn_a (by omega), axn_a (by omega), axn_a (by omega), axn_a (by omega), axn_a (by omega), axn_a (by omega), axn_a (by omega), axn_a (by omega), axn_a (by omega), axn_a (by omega), axn_a (by omega), axn_a (by omega), axn_a (by omega), axn_a (by omega)]; exact ho) (fun _ => rfl) ?_
  refine x_aload_n (pc := 285) hC dX12_init_285 rfl ?_
  refine x_bipush (pc := 286) hC dX12_init_286 (by decide) ?_
  refine x_newi (pc := 288) hC w_arrI dX12_init_288 (by omega) (by omega) (by omega) (by omega) ?_
  rw [show o + 33 + 1 = o + 34 from rfl]
  refine x_putO (pc := 290) hC pf_X12_106 dX12_init_290 (Or.inr ⟨_, rfl⟩) (by rw [axn_a (by omega), axn_a (by omega), axn_a (by omega), axn_a (by omega), axn_a (by omega), axn_a (by omega), axn_a (by omega), axn_a (by omega), axn_a (by omega), axn_a (by omega), axn_a (by omega), axn_a (by omega), axn_a (by omega), axn_a (by omega), axn_a (by omega), axn_a (by omega), axn_a (by omega), axn_a (by omega), axn_a (by omega), axn_a (by omega), axn_a (by omega), axn_a (by omega), axn_a (by omega), axn_a (by omega), axn_a (by omega), axn_a (by omega), axn_a (by omega), axn_a (by omega), axn_a (by omega), axn_a (by omega), axn_a (by omega), axn_a (by omega), axn_a (by omega)]; exact ho) (fun _ => rfl) ?_
  refine x_aload_n (pc := 293) hC dX12_init_293 rfl ?_
  refine x_iconst (pc := 294) hC dX12_init_294 ?_
  refine x_newi (pc := 295) hC w_arrI dX12_init_295 (by omega) (by omega) (by omega) (by omega) ?_
  rw [show o + 34 + 1 = o + 35 from rfl]
  refine x_putO (pc := 297) hC pf_X12_109 dX12_init_297 (Or.inr ⟨_, rfl⟩) (by rw [axn_a (by omega), axn_a (by omega), axn_a (by omega), axn_a (by omega), axn_a (by omega), axn_a (by omega), axn_a (by omega), axn_a (by omega), axn_a (by omega), axn_a (by omega), axn_a (by omega), axn_a (by omega), axn_a (by omega), axn_a (by omega), axn_a (by omega), axn_a (by omega), axn_a (by omega), axn_a (by omega), axn_a (by omega), axn_a (by omega), axn_a (by omega), axn_a (by omega), axn_a (by omega), axn_a (by omega), axn_a (by omega), axn_a (by omega), axn_a (by omega), axn_a (by omega), axn_a (by omega), axn_a (by omega), axn_a (by omega), axn_a (by omega), axn_a (by omega), axn_a (by omega)]; exact ho) (fun _ => rfl) ?_
  refine x_aload_n (pc := 300) hC dX12_init_300 rfl ?_
  refine x_iconst (pc := 301) hC dX12_init_301 ?_
  refine x_newi (pc := 302) hC w_arrI dX12_init_302 (by omega) (by omega) (by omega) (by omega) ?_
  rw [show o + 35 + 1 = o + 36 from rfl]
  refine x_putO (pc := 304) hC pf_X12_112 dX12_init_304 (Or.inr ⟨_, rfl⟩) (by rw [axn_a (by omega), axn_a (by omega), axn_a (by omega), axn_a (by omega), axn_a (by omega), axn_a (by omega), axn_a (by omega), axn_a (by omega), axn_a (by omega), axn_a (by omega), axn_a (by omega), axn_a (by omega), axn_a (by omega), axn_a (by omega), axn_a (by omega), axn_a (by omega), axn_a (by omega), axn_a (by omega), axn_a (by omega), axn_a (by omega), axn_a (by omega), axn_a (by omega), axn_a (by omega), axn_a (by omega), axn_a (by omega), axn_a (by omega), axn_a (by omega), axn_a (by omega), axn_a (by omega), axn_a (by omega), axn_a (by omega), axn_a (by omega), axn_a (by omega), axn_a (by omega), axn_a (by omega)]; exact ho) (fun _ => rfl) ?_
  refine x_aload_n (pc := 307) hC dX12_init_307 rfl ?_
  refine x_iconst (pc := 308) hC dX12_init_308 ?_
  refine x_newi (pc := 309) hC w_arrI dX12_init_309 (by omega) (by omega) (by omega) (by omega) ?_
  rw [show o + 36 + 1 = o + 37 from rfl]
  refine x_putO (pc := 311) hC pf_X12_115 dX12_init_311 (Or.inr ⟨_, rfl⟩) (by rw [axn_a (by omega), axn_a (by omega), axn_a (by omega), axn_a (by omega), axn_a (by omega), axn_a (by omega), axn_a (by omega), axn_a (by omega), axn_a (by omega), axn_a (by omega), axn_a (by omega), axn_a (by omega), axn_a (by omega), axn_a (by omega), axn_a (by omega), axn_a (by omega), axn_a (by omega), axn_a (by omega), axn_a (by omega), axn_a (by omega), axn_a (by omega), axn_a (by omega), axn_a (by omega), axn_a (by omega), axn_a (by omega), axn_a (by omega), axn_a (by omega), axn_a (by omega), axn_a (by omega), axn_a (by omega), axn_a (by omega), axn_a (by omega), axn_a (by omega), axn_a (by omega), axn_a (by omega), axn_a (by omega)]; exact ho) (fun _ => rfl) ?_
  refine x_aload_n (pc := 314) hC dX12_init_314 rfl ?_
  refine x_iconst (pc := 315) hC dX12_init_315 ?_
  refine x_bipush (pc := 316) hC dX12_init_316 (by decide) ?_
  refine x_bipush (pc := 318) hC dX12_init_318 (by decide) ?_
  have hZ := (zrM_s (zrM_s (zrM_s (zrM_s (zrM_s (zrM_9 (zrM_s (zrM_s (zrM_s (zrM_s (zrM_s (zrM_s (zrM_s (zrM_s (zrM_s (zrM_s (zrM_s (zrM_s (zrM_s (zrM_s (zrM_s (zrM_s (zrM_s (zrM_s (zrM_s (zrM_s (zrM_s (zrM_s (zrM_s (zrM_s (zrM_s (zrM_s (zrM_s (zrM_s (zrM_s (zrM_s (zrM_0 hI) rfl (by decide)) rfl (by decide)) rfl (by decide)) rfl (by decide)) rfl (by decide)) rfl (by decide)) rfl (by decide)) rfl (by decide)) rfl (by decide)) rfl (by decide)) rfl (by decide)) rfl (by decide)) rfl (by decide)) rfl (by decide)) rfl (by decide)) rfl (by decide)) rfl (by decide)) rfl (by decide)) rfl (by decide)) rfl (by decide)) rfl (by decide)) rfl (by decide)) rfl (by decide)) rfl (by decide)) rfl (by decide)) rfl (by decide)) rfl (by decide)) rfl (by decide)) rfl (by decide)) rfl (by decide)) rfl) rfl (by decide)) rfl (by decide)) rfl (by decide)) rfl (by decide)) rfl (by decide))
  refine ax_mo (o := o) ⟨(by rw [axn_a (by omega), axn_a (by omega), axn_a (by omega), axn_a (by omega), axn_a (by omega), axn_a (by omega), axn_a (by omega), axn_a (by omega), axn_a (by omega), axn_a (by omega), axn_a (by omega), axn_a (by omega), axn_a (by omega), axn_a (by omega), axn_a (by omega), axn_a (by omega), axn_a (by omega), axn_a (by omega), axn_a (by omega), axn_a (by omega), axn_a (by omega), axn_a (by omega), axn_a (by omega), axn_a (by omega), axn_a (by omega), axn_a (by omega), axn_a (by omega), axn_a (by omega), axn_a (by omega), axn_a (by omega), axn_a (by omega), axn_a (by omega), axn_a (by omega), axn_a (by omega), axn_a (by omega), axn_a (by omega)]; exact ho), (mo_c (kf := 4) (off := 1) (len := 24) (by simp (disch := omega) only [axn_a, axn_s, axu_s, axu_a, axu_j, axu_row]) (by simp (disch := omega) only [axn_a, axn_s, axu_s, axu_a, axu_j, axu_row]) (by simp (disch := omega) only [axn_a, axn_s, axu_s, axu_a, axu_j, axu_row]) (mo_c (kf := 5) (off := 2) (len := 24) (by simp (disch := omega) only [axn_a, axn_s, axu_s, axu_a, axu_j, axu_row]) (by simp (disch := omega) only [axn_a, axn_s, axu_s, axu_a, axu_j, axu_row]) (by simp (disch := omega) only [axn_a, axn_s, axu_s, axu_a, axu_j, axu_row]) (mo_c (kf := 6) (off := 3) (len := 24) (by simp (disch := omega) only [axn_a, axn_s, axu_s, axu_a, axu_j, axu_row]) (by simp (disch := omega) only [axn_a, axn_s, axu_s, axu_a, axu_j, axu_row]) (by simp (disch := omega) only [axn_a, axn_s, axu_s, axu_a, axu_j, axu_row]) (mo_c (kf := 7) (off := 4) (len := 24) (by simp (disch := omega) only [axn_a, axn_s, axu_s, axu_a, axu_j, axu_row]) (by simp (disch := omega) only [axn_a, axn_s, axu_s, axu_a, axu_j, axu_row]) (by simp (disch := omega) only [axn_a, axn_s, axu_s, axu_a, axu_j, axu_row]) (mo_c (kf := 8) (off := 5) (len := 416) (by simp (disch := omega) only [axn_a, axn_s, axu_s, axu_a, axu_j, axu_row]) (by simp (disch := omega) only [axn_a, axn_s, axu_s, axu_a, axu_j, axu_row]) (by simp (disch := omega) only [axn_a, axn_s, axu_s, axu_a, axu_j, axu_row]) (mo_c (kf := 9) (off := 6) (len := 26) (by simp (disch := omega) only [axn_a, axn_s, axu_s, axu_a, axu_j, axu_row]) (by simp (disch := omega) only [axn_a, axn_s, axu_s, axu_a, axu_j, axu_row]) (by simp (disch := omega) only [axn_a, axn_s, axu_s, axu_a, axu_j, axu_row]) (mo_c (kf := 10) (off := 7) (len := 4) (by simp (disch := omega) only [axn_a, axn_s, axu_s, axu_a, axu_j, axu_row]) (by simp (disch := omega) only [axn_a, axn_s, axu_s, axu_a, axu_j, axu_row]) (by simp (disch := omega) only [axn_a, axn_s, axu_s, axu_a, axu_j, axu_row]) (mo_c (kf := 11) (off := 8) (len := 289) (by simp (disch := omega) only [axn_a, axn_s, axu_s, axu_a, axu_j, axu_row]) (by simp (disch := omega) only [axn_a, axn_s, axu_s, axu_a, axu_j, axu_row]) (by simp (disch := omega) only [axn_a, axn_s, axu_s, axu_a, axu_j, axu_row]) (mo_c (kf := 12) (off := 9) (len := 32) (by simp (disch := omega) only [axn_a, axn_s, axu_s, axu_a, axu_j, axu_row]) (by simp (disch := omega) only [axn_a, axn_s, axu_s, axu_a, axu_j, axu_row]) (by simp (disch := omega) only [axn_a, axn_s, axu_s, axu_a, axu_j, axu_row]) (mo_c (kf := 14) (off := 10) (len := 17) (by simp (disch := omega) only [axn_a, axn_s, axu_s, axu_a, axu_j, axu_row]) (by simp (disch := omega) only [axn_a, axn_s, axu_s, axu_a, axu_j, axu_row]) (by simp (disch := omega) only [axn_a, axn_s, axu_s, axu_a, axu_j, axu_row]) (mo_c (kf := 15) (off := 11) (len := 17) (by simp (disch := omega) only [axn_a, axn_s, axu_s, axu_a, axu_j, axu_row]) (by simp (disch := omega) only [axn_a, axn_s, axu_s, axu_a, axu_j, axu_row]) (by simp (disch := omega) only [axn_a, axn_s, axu_s, axu_a, axu_j, axu_row]) (mo_c (kf := 16) (off := 12) (len := 17) (by simp (disch := omega) only [axn_a, axn_s, axu_s, axu_a, axu_j, axu_row]) (by simp (disch := omega) only [axn_a, axn_s, axu_s, axu_a, axu_j, axu_row]) (by simp (disch := omega) only [axn_a, axn_s, axu_s, axu_a, axu_j, axu_row]) (mo_c (kf := 17) (off := 13) (len := 17) (by simp (disch := omega) only [axn_a, axn_s, axu_s, axu_a, axu_j, axu_row]) (by simp (disch := omega) only [axn_a, axn_s, axu_s, axu_a, axu_j, axu_row]) (by simp (disch := omega) only [axn_a, axn_s, axu_s, axu_a, axu_j, axu_row]) (mo_c (kf := 18) (off := 14) (len := 160) (by simp (disch := omega) only [axn_a, axn_s, axu_s, axu_a, axu_j, axu_row]) (by simp (disch := omega) only [axn_a, axn_s, axu_s, axu_a, axu_j, axu_row]) (by simp (disch := omega) only [axn_a, axn_s, axu_s, axu_a, axu_j, axu_row]) (mo_c (kf := 20) (off := 15) (len := 160) (by simp (disch := omega) only [axn_a, axn_s, axu_s, axu_a, axu_j, axu_row]) (by simp (disch := omega) only [axn_a, axn_s, axu_s, axu_a, axu_j, axu_row]) (by simp (disch := omega) only [axn_a, axn_s, axu_s, axu_a, axu_j, axu_row]) (mo_c (kf := 24) (off := 16) (len := 102) (by simp (disch := omega) only [axn_a, axn_s, axu_s, axu_a, axu_j, axu_row]) (by simp (disch := omega) only [axn_a, axn_s, axu_s, axu_a, axu_j, axu_row]) (by simp (disch := omega) only [axn_a, axn_s, axu_s, axu_a, axu_j, axu_row]) (mo_c (kf := 25) (off := 17) (len := 102) (by simp (disch := omega) only [axn_a, axn_s, axu_s, axu_a, axu_j, axu_row]) (by simp (disch := omega) only [axn_a, axn_s, axu_s, axu_a, axu_j, axu_row]) (by simp (disch := omega) only [axn_a, axn_s, axu_s, axu_a, axu_j, axu_row]) (mo_c (kf := 26) (off := 18) (len := 96) (by simp (disch := omega) only [axn_a, axn_s, axu_s, axu_a, axu_j, axu_row]) (by simp (disch := omega) only [axn_a, axn_s, axu_s, axu_a, axu_j, axu_row]) (by simp (disch := omega) only [axn_a, axn_s, axu_s, axu_a, axu_j, axu_row]) (mo_c (kf := 27) (off := 19) (len := 2) (by simp (disch := omega) only [axn_a, axn_s, axu_s, axu_a, axu_j, axu_row]) (by simp (disch := omega) only [axn_a, axn_s, axu_s, axu_a, axu_j, axu_row]) (by simp (disch := omega) only [axn_a, axn_s, axu_s, axu_a, axu_j, axu_row]) (mo_c (kf := 31) (off := 20) (len := 408) (by simp (disch := omega) only [axn_a, axn_s, axu_s, axu_a, axu_j, axu_row]) (by simp (disch := omega) only [axn_a, axn_s, axu_s, axu_a, axu_j, axu_row]) (by simp (disch := omega) only [axn_a, axn_s, axu_s, axu_a, axu_j, axu_row]) (mo_c (kf := 32) (off := 21) (len := 8) (by simp (disch := omega) only [axn_a, axn_s, axu_s, axu_a, axu_j, axu_row]) (by simp (disch := omega) only [axn_a, axn_s, axu_s, axu_a, axu_j, axu_row]) (by simp (disch := omega) only [axn_a, axn_s, axu_s, axu_a, axu_j, axu_row]) (mo_c (kf := 33) (off := 22) (len := 48) (by simp (disch := omega) only [axn_a, axn_s, axu_s, axu_a, axu_j, axu_row]) (by simp (disch := omega) only [axn_a, axn_s, axu_s, axu_a, axu_j, axu_row]) (by simp (disch := omega) only [axn_a, axn_s, axu_s, axu_a, axu_j, axu_row]) (mo_c (kf := 34) (off := 23) (len := 8) (by simp (disch := omega) only [axn_a, axn_s, axu_s, axu_a, axu_j, axu_row]) (by simp (disch := omega) only [axn_a, axn_s, axu_s, axu_a, axu_j, axu_row]) (by simp (disch := omega) only [axn_a, axn_s, axu_s, axu_a, axu_j, axu_row]) (mo_c (kf := 36) (off := 24) (len := 408) (by simp (disch := omega) only [axn_a, axn_s, axu_s, axu_a, axu_j, axu_row]) (by simp (disch := omega) only [axn_a, axn_s, axu_s, axu_a, axu_j, axu_row]) (by simp (disch := omega) only [axn_a, axn_s, axu_s, axu_a, axu_j, axu_row]) (mo_c (kf := 37) (off := 25) (len := 8) (by simp (disch := omega) only [axn_a, axn_s, axu_s, axu_a, axu_j, axu_row]) (by simp (disch := omega) only [axn_a, axn_s, axu_s, axu_a, axu_j, axu_row]) (by simp (disch := omega) only [axn_a, axn_s, axu_s, axu_a, axu_j, axu_row]) (mo_c (kf := 38) (off := 26) (len := 48) (by simp (disch := omega) only [axn_a, axn_s, axu_s, axu_a, axu_j, axu_row]) (by simp (disch := omega) only [axn_a, axn_s, axu_s, axu_a, axu_j, axu_row]) (by simp (disch := omega) only [axn_a, axn_s, axu_s, axu_a, axu_j, axu_row]) (mo_c (kf := 39) (off := 27) (len := 8) (by simp (disch := omega) only [axn_a, axn_s, axu_s, axu_a, axu_j, axu_row]) (by simp (disch := omega) only [axn_a, axn_s, axu_s, axu_a, axu_j, axu_row]) (by simp (disch := omega) only [axn_a, axn_s, axu_s, axu_a, axu_j, axu_row]) (mo_c (kf := 45) (off := 28) (len := 24) (by simp (disch := omega) only [axn_a, axn_s, axu_s, axu_a, axu_j, axu_row]) (by simp (disch := omega) only [axn_a, axn_s, axu_s, axu_a, axu_j, axu_row]) (by simp (disch := omega) only [axn_a, axn_s, axu_s, axu_a, axu_j, axu_row]) (mo_c (kf := 48) (off := 29) (len := 4) (by simp (disch := omega) only [axn_a, axn_s, axu_s, axu_a, axu_j, axu_row]) (by simp (disch := omega) only [axn_a, axn_s, axu_s, axu_a, axu_j, axu_row]) (by simp (disch := omega) only [axn_a, axn_s, axu_s, axu_a, axu_j, axu_row]) (mo_c (kf := 49) (off := 30) (len := 4) (by simp (disch := omega) only [axn_a, axn_s, axu_s, axu_a, axu_j, axu_row]) (by simp (disch := omega) only [axn_a, axn_s, axu_s, axu_a, axu_j, axu_row]) (by simp (disch := omega) only [axn_a, axn_s, axu_s, axu_a, axu_j, axu_row]) (mo_c (kf := 55) (off := 31) (len := 5) (by simp (disch := omega) only [axn_a, axn_s, axu_s, axu_a, axu_j, axu_row]) (by simp (disch := omega) only [axn_a, axn_s, axu_s, axu_a, axu_j, axu_row]) (by simp (disch := omega) only [axn_a, axn_s, axu_s, axu_a, axu_j, axu_row]) (mo_c (kf := 56) (off := 32) (len := 5) (by simp (disch := omega) only [axn_a, axn_s, axu_s, axu_a, axu_j, axu_row]) (by simp (disch := omega) only [axn_a, axn_s, axu_s, axu_a, axu_j, axu_row]) (by simp (disch := omega) only [axn_a, axn_s, axu_s, axu_a, axu_j, axu_row]) (mo_c (kf := 57) (off := 33) (len := 120) (by simp (disch := omega) only [axn_a, axn_s, axu_s, axu_a, axu_j, axu_row]) (by simp (disch := omega) only [axn_a, axn_s, axu_s, axu_a, axu_j, axu_row]) (by simp (disch := omega) only [axn_a, axn_s, axu_s, axu_a, axu_j, axu_row]) (mo_c (kf := 58) (off := 34) (len := 5) (by simp (disch := omega) only [axn_a, axn_s, axu_s, axu_a, axu_j, axu_row]) (by simp (disch := omega) only [axn_a, axn_s, axu_s, axu_a, axu_j, axu_row]) (by simp (disch := omega) only [axn_a, axn_s, axu_s, axu_a, axu_j, axu_row]) (mo_c (kf := 59) (off := 35) (len := 5) (by simp (disch := omega) only [axn_a, axn_s, axu_s, axu_a, axu_j, axu_row]) (by simp (disch := omega) only [axn_a, axn_s, axu_s, axu_a, axu_j, axu_row]) (by simp (disch := omega) only [axn_a, axn_s, axu_s, axu_a, axu_j, axu_row]) (mo_c (kf := 60) (off := 36) (len := 5) (by simp (disch := omega) only [axn_a, axn_s, axu_s, axu_a, axu_j, axu_row]) (by simp (disch := omega) only [axn_a, axn_s, axu_s, axu_a, axu_j, axu_row]) (by simp (disch := omega) only [axn_a, axn_s, axu_s, axu_a, axu_j, axu_row]) (fun q h9 => by cases h9)))))))))))))))))))))))))))))))))))))⟩ (fun hM0 => ?_)
  refine x_mV (pc := 320) hC cv_X12_118 dX12_init_320 (m_made hM0 ⟨by rw [hZ.2.1]; decide, by rw [hZ.2.1]; decide⟩ (by decide) (by decide)) hM0.1 rfl (by decide) rfl rfl (Nat.le_of_ble_eq_true rfl) ?_
  dsimp only [Option.toList, List.nil_append, List.cons_append]
  refine x_pop (pc := 323) hC dX12_init_323 rfl ?_
  refine x_vret (pc := 324) hC rfl dX12_init_324 ?_
  refine ⟨rfl, rfl, ⟨fun q hq => ⟨?_, ?_, ?_, ?_⟩, fun q hq => ?_, ?_, ?_⟩, hM0, _, hZ, rfl⟩
  · simp (disch := omega) only [axn_a, axn_s, axu_s, axu_a, axu_j, axu_row]
  · simp (disch := omega) only [axn_a, axn_s, axu_s, axu_a, axu_j, axu_row]
  · unfold mdI
    simp (disch := omega) only [axn_a, axn_s, axu_s, axu_a, axu_j, axu_row]
  · simp (disch := omega) only [axn_a, axn_s, axu_s, axu_a, axu_j, axu_row]
  · simp (disch := omega) only [axn_a, axn_s, axu_s, axu_a, axu_j, axu_row]
  · simp (disch := omega) only [axn_a, axn_s, axu_s, axu_a, axu_j, axu_row]
  · simp (disch := omega) only [axn_a, axn_s, axu_s, axu_a, axu_j, axu_row]

