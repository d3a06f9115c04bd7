/-! THE CLASS: a conflict is met -/
def ptW (I : Nat → Int → Int) (R : Nat → Int → Option Nat) (p a : Nat) (i e : Int) : Prop := R p 0 = some a ∧ I p 1 = i ∧ I p 2 = e - i
theorem ptW_S {T : Nat → Nat} {N : Nat → Int} {I : Nat → Int → Int} {R : Nat → Int → Option Nat} {p a : Nat} {i e : Int} (h : ptW I R p a i e) (hT : T p = 4) (ha : rwS T N I a) (h0 : 0 ≤ i) (h1 : i ≤ e) (h2 : e ≤ N a) : ptS T N I R p (seg (I a) i e) := by
  obtain ⟨w1, w2, w3⟩ := h
  have := ha.2.1
  refine ⟨hT, a, w1, ha.1, by omega, by omega, by omega, by omega, ?_⟩
  rw [w2, w3, show i + (e - i) = e by omega]
theorem rfind_eq {rs : List (List Int × List Int)} {sh : List Int} {p : List Int × List Int} (h : rfind rs sh = some p) : p.1 = sh := by
  have := List.find?_some h
  simpa using this
theorem seg_rw {T : Nat → Nat} {N : Nat → Int} {I : Nat → Int → Int} {a : Nat} {i e : Int} (ha : rwS T N I a) (h0 : 0 ≤ i) (h2 : e ≤ N a) : isLn (seg (I a) i e) ∧ (seg (I a) i e).length ≤ 16 := by
  refine ⟨fun v hv => ?_, ?_⟩
  · obtain ⟨j, j1, j2, rfl⟩ := seg_mem.mp hv
    exact ha.2.2 j (by omega) (by omega)
  · have := ha.2.1
    rw [seg_len]; omega
theorem cShape_names {B O Th : List Int} {sh row : List Int} (hw : rwOk sh row) (he : sh = (cShape B O Th).1) : ∀ v ∈ row, (0 ≤ v ∧ v < (cShape B O Th).2.length) ∨ (100 ≤ v ∧ v < 200) := by
  obtain ⟨-, B', X, Y, -, h1, h2⟩ := hw
  intro v hv
  have : (shpSeq B' X Y).2.length = (cShape B O Th).2.length := by
    rw [h1] at he
    unfold cShape at *
    split
    · rw [if_pos (by assumption)] at he; exact shpSeq_names he
    · rw [if_neg (by assumption)] at he; exact shpSeq_names he
  rw [← this]
  exact h2 v hv

set_option maxHeartbeats 4000000 in
set_option maxRecDepth 100000 in
theorem c_meet {G : ax_G} {T : Nat → Nat} {N : Nat → Int} {I : Nat → Int → Int} {R : Nat → Int → Option Nat} {z : Nat} {g a b t : Nat} {i1 e1 i2 e2 i3 e3 w : Int} {L : List Int} {rs : List (List Int × List Int)} (hg : mgT T N R g) (hr : reS T N I R g rs) (hn : rsN rs) (hrk : ∀ p ∈ rs, rwOk p.1 p.2) (hL : rlS I g L) (h144 : L.length ≤ 144) (h4 : 0 ≤ I g 5 ∧ I g 5 ≤ 20) (hw : ax_r w) (w1 : ptW I R (g + 81) a i1 e1) (w2 : ptW I R (g + 82) b i2 e2) (w3 : ptW I R (g + 83) t i3 e3) (ha : rwS T N I a) (hb : rwS T N I b) (ht : rwS T N I t) (r1 : 0 ≤ i1 ∧ i1 ≤ e1 ∧ e1 ≤ N a) (r2 : 0 ≤ i2 ∧ i2 ≤ e2 ∧ e2 ≤ N b) (r3 : 0 ≤ i3 ∧ i3 ≤ e3 ∧ e3 ≤ N t) (oa : a < g ∨ g + 93 ≤ a) (ob : b < g ∨ g + 93 ≤ b) (ot : t < g ∨ g + 93 ≤ t) : axR G YX3_meetConflict 2 [vR g, vI w] T N I R z (fun r1 I1 R1 => r1 = none ∧ ((∀ q, q < g ∨ g + 93 ≤ q → I1 q = I q) ∧ ∀ q, q < g ∨ g + 93 ≤ q → R1 q = R q) ∧ mgF R R1 g ∧ (I1 (g + 5) = I (g + 5) ∧ I1 (g + 44) = I (g + 44) ∧ I1 g 1 = I g 1) ∧ (rlS I1 g (L ++ (gapC rs (seg (I a) i1 e1) (seg (I b) i2 e2) (seg (I t) i3 e3)).1) ∧ I1 g 4 = I g 4 + (gapC rs (seg (I a) i1 e1) (seg (I b) i2 e2) (seg (I t) i3 e3)).2.1 ∧ I1 g 5 = I g 5 + (gapC rs (seg (I a) i1 e1) (seg (I b) i2 e2) (seg (I t) i3 e3)).2.2) ∧ if (gapC rs (seg (I a) i1 e1) (seg (I b) i2 e2) (seg (I t) i3 e3)).2.2 = 1 ∧ I g 5 = w then ptW I1 R1 (g + 84) a i1 e1 ∧ ptW I1 R1 (g + 85) b i2 e2 ∧ ptW I1 R1 (g + 86) t i3 e3 else (∀ q, g + 84 ≤ q → q ≤ g + 86 → I1 q = I q ∧ R1 q = R q)) := by

  refine ax_enter (by decide) (Nat.le_of_ble_eq_true rfl) (ax_cat rfl) (fun f hC => ?_)
  show axX G f 0 0 _ 0 [vR g, vI w, vU] [] T N I R z 0 0
  have la := ha.2.1
  have lb := hb.2.1
  have lt := ht.2.1
  obtain ⟨n1, m1⟩ := seg_rw ha r1.1 r1.2.2
  obtain ⟨n2, m2⟩ := seg_rw hb r2.1 r2.2.2
  obtain ⟨n3, m3⟩ := seg_rw ht r3.1 r3.2.2
  have p1 := ptW_S w1 hg.2.2.2.2.2.1.2 ha r1.1 r1.2.1 r1.2.2
  have p2 := ptW_S w2 hg.2.2.2.2.2.2.1.2 hb r2.1 r2.2.1 r2.2.2
  have p3 := ptW_S w3 hg.2.2.2.2.2.2.2.1.2 ht r3.1 r3.2.1 r3.2.2
  have rp1 : ∀ r, R (g + 81) 0 = some r → r = a := fun r h => by rw [w1.1] at h; exact (Option.some.inj h).symm
  have rp2 : ∀ r, R (g + 82) 0 = some r → r = b := fun r h => by rw [w2.1] at h; exact (Option.some.inj h).symm
  have rp3 : ∀ r, R (g + 83) 0 = some r → r = t := fun r h => by rw [w3.1] at h; exact (Option.some.inj h).symm
  have u0 : ∀ q, q ≠ g → ax_u I g 4 (I g 4 + 1) q = I q := fun q h => axu_row h
  obtain ⟨B, hB⟩ : ∃ B, B = (seg (I a) i1 e1) := ⟨_, rfl⟩
  obtain ⟨O, hO⟩ : ∃ O, O = (seg (I b) i2 e2) := ⟨_, rfl⟩
  obtain ⟨Th, hTh⟩ : ∃ Th, Th = (seg (I t) i3 e3) := ⟨_, rfl⟩
  rw [← hB] at n1 m1 p1 ⊢
  rw [← hO] at n2 m2 p2 ⊢
  rw [← hTh] at n3 m3 p3 ⊢
  refine x_aload_n (pc := 0) hC dX3_meetConflict_0 rfl ?_
  refine x_dup (pc := 1) hC dX3_meetConflict_1 rfl ?_
  refine x_getI (pc := 2) hC gf_X3_74 dX3_meetConflict_2 hg.1 ?_
  refine x_iconst (pc := 5) hC dX3_meetConflict_5 ?_
  refine x_iadd (pc := 6) hC dX3_meetConflict_6 ?_
  refine x_putI (pc := 7) hC pf_X3_74 dX3_meetConflict_7 hg.1 (by decide) ?_
  refine x_aload_n (pc := 10) hC dX3_meetConflict_10 rfl ?_
  refine x_aload_n (pc := 11) hC dX3_meetConflict_11 rfl ?_
  refine x_getO (pc := 12) hC gf_X3_34 dX3_meetConflict_12 hg.1 hg.2.2.2.2.2.1.1 ?_
  refine x_aload_n (pc := 15) hC dX3_meetConflict_15 rfl ?_
  refine x_getO (pc := 16) hC gf_X3_38 dX3_meetConflict_16 hg.1 hg.2.2.2.2.2.2.1.1 ?_
  refine x_aload_n (pc := 19) hC dX3_meetConflict_19 rfl ?_
  refine x_getO (pc := 20) hC gf_X3_41 dX3_meetConflict_20 hg.1 hg.2.2.2.2.2.2.2.1.1 ?_
  refine x_rV (pc := 23) hC cv_X3_112 dX3_meetConflict_23 (c_findShape hg (ptS_fr p1 (u0 _ (by omega)) rfl (fun r hr => u0 r (by have := rp1 r hr; omega))) (ptS_fr p2 (u0 _ (by omega)) rfl (fun r hr => u0 r (by have := rp2 r hr; omega))) (ptS_fr p3 (u0 _ (by omega)) rfl (fun r hr => u0 r (by have := rp3 r hr; omega))) n1 n2 n3 m1 m2 m3 (by omega) (fun r hr => by have := rp1 r hr; omega) (fun r hr => by have := rp2 r hr; omega) (fun r hr => by have := rp3 r hr; omega)) hg.1 rfl (by decide) rfl rfl (Nat.le_of_ble_eq_true rfl) ?_
  rintro v J S ⟨rfl, hJ, sO, sT, hS⟩
  dsimp only [Option.toList, List.nil_append]
  obtain ⟨s, hs9⟩ : ∃ s, s = (if lxF (shpSeq B O Th).1 (shpSeq B Th O).1 = 1 then g + 90 else g + 87) := ⟨_, rfl⟩
  rw [← hs9] at hS
  subst hS
  have hF1 : mgF R (ax_u R g 16 (some s)) g := ⟨fun q a1 _ => axu_row a1, fun k hk => axu_j hk⟩
  have hg1 := mgT_fr hg hF1
  have hJI : ∀ q, q ≠ g → (q < g + 87 ∨ g + 93 ≤ q) → J q = I q := fun q a1 a2 => (hJ q a2).trans (u0 q a1)
  have hJg : ∀ k, k ≠ 4 → J g k = I g k := fun k hk => by rw [hJ g (by omega), axu_j hk]
  have hJ4 : J g 4 = I g 4 + 1 := by rw [hJ g (by omega), axu_s]
  have hsel : (s = g + 87 ∨ s = g + 90) ∧ shT T N (ax_u R g 16 (some s)) s ∧ shS J s (cShape B O Th) := by
    have h01 := lxF_01 (shpSeq B O Th).1 (shpSeq B Th O).1
    unfold cShape
    rcases h01 with h | h
    · rw [if_neg (by omega)] at hs9
      rw [if_pos h]
      refine ⟨Or.inl hs9, ?_, ?_⟩
      · rw [show shT T N (ax_u R g 16 (some s)) s = shT T N (ax_u R g 16 (some s)) (g + 87) from congrArg _ hs9]
        exact hg1.2.2.2.2.2.2.2.2.2.2.2.1.2
      · rw [hs9]; exact sO
    · rw [if_pos h] at hs9
      rw [if_neg (by omega)]
      refine ⟨Or.inr hs9, ?_, ?_⟩
      · rw [show shT T N (ax_u R g 16 (some s)) s = shT T N (ax_u R g 16 (some s)) (g + 90) from congrArg _ hs9]
        exact hg1.2.2.2.2.2.2.2.2.2.2.2.2.2
      · rw [hs9]; exact sT
  obtain ⟨hs8, hsT, hsS⟩ := hsel
  have hsh : (ax_u R g 16 (some s)) g 16 = some s := axu_s
  have hr1 : reS T N J (ax_u R g 16 (some s)) g rs := reS_fr hr (hJg 1 (by decide)) (fun q h => hJI q (by omega) (by omega)) (fun q h => axu_row (by omega)) (axu_row (by omega))
  have hcl := cShape_l B O Th
  have hcr : ∀ v ∈ (cShape B O Th).1, 0 ≤ v ∧ v < 1000 := fun v hv => by
    unfold cShape at hv
    split at hv
    · have := shpSeq_r (B := B) (X := O) (Y := Th) (by omega) v hv; omega
    · have := shpSeq_r (B := B) (X := Th) (Y := O) (by omega) v hv; omega
  have hL1 : rlS J g L := ⟨by rw [hJg 3 (by decide)]; exact hL.1, by rw [hJI (g + 2) (by omega) (by omega)]; exact hL.2⟩
  refine x_aload_n (pc := 26) hC dX3_meetConflict_26 rfl ?_
  refine x_mVx (pc := 27) hC cv_X3_116 dX3_meetConflict_27 (c_findResolution hg1 hr1 hn hsh hsT hsS (by omega) hcr) hg.1 rfl (by decide) rfl rfl (Nat.le_of_ble_eq_true rfl) ?_
  rintro v J' ⟨hfr, hJe⟩
  rw [hJe]
  rcases hfr with ⟨hf, rfl⟩ | ⟨p, ad, hf, hOo, rfl⟩
  · dsimp only [Option.toList]
    have hgc : gapC rs B O Th = ([], 1, 1) := by unfold gapC; rw [hf]
    rw [hgc]
    have x1 : J (g + 81) 1 = i1 := by rw [hJI _ (by omega) (by omega)]; exact w1.2.1
    have x2 : J (g + 81) 2 = e1 - i1 := by rw [hJI _ (by omega) (by omega)]; exact w1.2.2
    have x3 : J (g + 82) 1 = i2 := by rw [hJI _ (by omega) (by omega)]; exact w2.2.1
    have x4 : J (g + 82) 2 = e2 - i2 := by rw [hJI _ (by omega) (by omega)]; exact w2.2.2
    have x5 : J (g + 83) 1 = i3 := by rw [hJI _ (by omega) (by omega)]; exact w3.2.1
    have x6 : J (g + 83) 2 = e3 - i3 := by rw [hJI _ (by omega) (by omega)]; exact w3.2.2
    have j5 : J g 5 = I g 5 := hJg 5 (by decide)
    refine x_astore_n (pc := 30) hC dX3_meetConflict_30 (Nat.le_of_ble_eq_true rfl) ?_
    dsimp only [List.set]
    refine x_aload_n (pc := 31) hC dX3_meetConflict_31 rfl ?_
    refine x_ifnull (pc := 32) hC 41 dX3_meetConflict_32 (by decide) (fun _ => ?_) (fun _ h => by cases h)
    refine x_aload_n (pc := 41) hC dX3_meetConflict_41 rfl ?_
    refine x_getI (pc := 42) hC gf_X3_77 dX3_meetConflict_42 hg.1 ?_
    refine x_iload_n (pc := 45) hC dX3_meetConflict_45 rfl ?_
    rw [j5]
    refine x_icmp_ne (pc := 46) hC 157 dX3_meetConflict_46 (by decide) (by omega) (by omega) (fun b46 => ?_) (fun b46 => ?_)
    · refine x_aload_n (pc := 157) hC dX3_meetConflict_157 rfl ?_
      refine x_dup (pc := 158) hC dX3_meetConflict_158 rfl ?_
      refine x_getI (pc := 159) hC gf_X3_77 dX3_meetConflict_159 hg.1 ?_
      refine x_iconst (pc := 162) hC dX3_meetConflict_162 ?_
      refine x_iadd (pc := 163) hC dX3_meetConflict_163 ?_
      refine x_putI (pc := 164) hC pf_X3_77 dX3_meetConflict_164 hg.1 (by decide) ?_
      refine x_vret (pc := 167) hC rfl dX3_meetConflict_167 ?_
      first
      | (rw [if_pos ⟨rfl, b46⟩, setI_o (by omega), setI_o (by omega), setI_o (by omega), j5, List.append_nil]
         have kI : ∀ q, q ≠ g → q ≠ g + 84 → q ≠ g + 85 → q ≠ g + 86 → (ax_u (setI (setI (setI J (g + 84) i1 (i1 + (e1 - i1))) (g + 85) i2 (i2 + (e2 - i2))) (g + 86) i3 (i3 + (e3 - i3))) g 5 (I g 5 + 1)) q = J q := fun q a0 a1 a2 a3 => by rw [axu_row a0, setI_o a3, setI_o a2, setI_o a1]
         have kg : ∀ k, k ≠ 5 → (ax_u (setI (setI (setI J (g + 84) i1 (i1 + (e1 - i1))) (g + 85) i2 (i2 + (e2 - i2))) (g + 86) i3 (i3 + (e3 - i3))) g 5 (I g 5 + 1)) g k = J g k := fun k hk => by rw [axu_j hk, setI_o (by omega), setI_o (by omega), setI_o (by omega)]
         refine ⟨⟨rfl, ⟨fun q h => (kI q (by omega) (by omega) (by omega) (by omega)).trans (hJI q (by omega) (by omega)), fun q h => by rw [axu_row (by omega), axu_row (by omega), axu_row (by omega), axu_row (by omega)]⟩, hF3.tr ⟨fun q _ b1 => axu_row (by omega), fun k hk => axu_a (by omega)⟩, ⟨(kI _ (by omega) (by omega) (by omega) (by omega)).trans (hJI _ (by omega) (by omega)), (kI _ (by omega) (by omega) (by omega) (by omega)).trans (hJI _ (by omega) (by omega)), (kg 1 (by decide)).trans (hJg 1 (by decide))⟩, ⟨⟨(kg 3 (by decide)).trans hL1.1, by rw [kI (g + 2) (by omega) (by omega) (by omega) (by omega)]; exact hL1.2⟩, (kg 4 (by decide)).trans hJ4, axu_s⟩, ⟨?_, ?_, ?_⟩, ⟨?_, ?_, ?_⟩, ⟨?_, ?_, ?_⟩⟩, rfl, rfl, rfl⟩
         · rw [axu_a (by omega), axu_a (by omega), axu_s]
         · rw [axu_a (by omega), setI_o (by omega), setI_o (by omega), setI_1]
         · rw [axu_a (by omega), setI_o (by omega), setI_o (by omega), setI_2]; omega
         · rw [axu_a (by omega), axu_s]
         · rw [axu_a (by omega), setI_o (by omega), setI_1]
         · rw [axu_a (by omega), setI_o (by omega), setI_2]; omega
         · rw [axu_s]
         · rw [axu_a (by omega), setI_1]
         · rw [axu_a (by omega), setI_2]; omega)
      | (rw [if_neg (fun h => b46 h.2), j5, List.append_nil]
         refine ⟨⟨rfl, ⟨fun q h => (axu_row (by omega)).trans (hJI q (by omega) (by omega)), fun q h => axu_row (by omega)⟩, hF1, ⟨(axu_row (by omega)).trans (hJI _ (by omega) (by omega)), (axu_row (by omega)).trans (hJI _ (by omega) (by omega)), (axu_j (by decide)).trans (hJg 1 (by decide))⟩, ⟨⟨(axu_j (by decide)).trans hL1.1, by rw [axu_row (by omega)]; exact hL1.2⟩, (axu_j (by decide)).trans hJ4, axu_s⟩, fun q h1 h2 => ⟨(axu_row (by omega)).trans (hJI q (by omega) (by omega)), axu_row (by omega)⟩⟩, rfl, rfl, rfl⟩)
    · refine x_aload_n (pc := 49) hC dX3_meetConflict_49 rfl ?_
      refine x_getO (pc := 50) hC gf_X3_44 dX3_meetConflict_50 hg.1 hg1.2.2.2.2.2.2.2.2.1.1 ?_
      refine x_aload_n (pc := 53) hC dX3_meetConflict_53 rfl ?_
      refine x_getO (pc := 54) hC gf_X3_34 dX3_meetConflict_54 hg.1 hg1.2.2.2.2.2.1.1 ?_
      refine x_getO (pc := 57) hC gf_X3_124 dX3_meetConflict_57 hg1.2.2.2.2.2.1.2 (Eq.trans (axu_a (by omega)) w1.1) ?_
      refine x_aload_n (pc := 60) hC dX3_meetConflict_60 rfl ?_
      refine x_getO (pc := 61) hC gf_X3_34 dX3_meetConflict_61 hg.1 hg1.2.2.2.2.2.1.1 ?_
      refine x_getI (pc := 64) hC gf_X3_127 dX3_meetConflict_64 hg1.2.2.2.2.2.1.2 ?_
      refine x_aload_n (pc := 67) hC dX3_meetConflict_67 rfl ?_
      refine x_getO (pc := 68) hC gf_X3_34 dX3_meetConflict_68 hg.1 hg1.2.2.2.2.2.1.1 ?_
      refine x_getI (pc := 71) hC gf_X3_127 dX3_meetConflict_71 hg1.2.2.2.2.2.1.2 ?_
      refine x_aload_n (pc := 74) hC dX3_meetConflict_74 rfl ?_
      refine x_getO (pc := 75) hC gf_X3_34 dX3_meetConflict_75 hg.1 hg1.2.2.2.2.2.1.1 ?_
      refine x_getI (pc := 78) hC gf_X3_130 dX3_meetConflict_78 hg1.2.2.2.2.2.1.2 ?_
      refine x_iadd (pc := 81) hC dX3_meetConflict_81 ?_
      rw [x1, x2]
      refine x_rV (pc := 82) hC cv_X3_89 dX3_meetConflict_82 (c_setTo hg.2.2.2.2.2.2.2.2.1.2 ha.1 (by omega) r1.1 (by omega) (by omega)) hg1.2.2.2.2.2.2.2.2.1.2 rfl (by decide) rfl rfl (Nat.le_of_ble_eq_true rfl) ?_
      rintro v I5 S5 ⟨rfl, hI5, hS5⟩
      change I5 = setI _ _ _ _ at hI5
      subst hI5 hS5
      dsimp only [Option.toList, List.nil_append]
      have hF2 := hF1.tr (S := ax_u R g 16 (some s)) (U := ax_u (ax_u R g 16 (some s)) (g + 84) 0 (some a)) ⟨fun q _ b1 => axu_row (by omega), fun k hk => axu_a (by omega)⟩
      have hg2 := mgT_fr hg hF2
      refine x_aload_n (pc := 85) hC dX3_meetConflict_85 rfl ?_
      refine x_getO (pc := 86) hC gf_X3_47 dX3_meetConflict_86 hg.1 hg2.2.2.2.2.2.2.2.2.2.1.1 ?_
      refine x_aload_n (pc := 89) hC dX3_meetConflict_89 rfl ?_
      refine x_getO (pc := 90) hC gf_X3_38 dX3_meetConflict_90 hg.1 hg2.2.2.2.2.2.2.1.1 ?_
      refine x_getO (pc := 93) hC gf_X3_124 dX3_meetConflict_93 hg2.2.2.2.2.2.2.1.2 (Eq.trans (axu_a (by omega)) (Eq.trans (axu_a (by omega)) w2.1)) ?_
      refine x_aload_n (pc := 96) hC dX3_meetConflict_96 rfl ?_
      refine x_getO (pc := 97) hC gf_X3_38 dX3_meetConflict_97 hg.1 hg2.2.2.2.2.2.2.1.1 ?_
      refine x_getI (pc := 100) hC gf_X3_127 dX3_meetConflict_100 hg2.2.2.2.2.2.2.1.2 ?_
      refine x_aload_n (pc := 103) hC dX3_meetConflict_103 rfl ?_
      refine x_getO (pc := 104) hC gf_X3_38 dX3_meetConflict_104 hg.1 hg2.2.2.2.2.2.2.1.1 ?_
      refine x_getI (pc := 107) hC gf_X3_127 dX3_meetConflict_107 hg2.2.2.2.2.2.2.1.2 ?_
      refine x_aload_n (pc := 110) hC dX3_meetConflict_110 rfl ?_
      refine x_getO (pc := 111) hC gf_X3_38 dX3_meetConflict_111 hg.1 hg2.2.2.2.2.2.2.1.1 ?_
      refine x_getI (pc := 114) hC gf_X3_130 dX3_meetConflict_114 hg2.2.2.2.2.2.2.1.2 ?_
      refine x_iadd (pc := 117) hC dX3_meetConflict_117 ?_
      rw [setI_o (by omega), x3, x4]
      refine x_rV (pc := 118) hC cv_X3_89 dX3_meetConflict_118 (c_setTo hg.2.2.2.2.2.2.2.2.2.1.2 hb.1 (by omega) r2.1 (by omega) (by omega)) hg2.2.2.2.2.2.2.2.2.2.1.2 rfl (by decide) rfl rfl (Nat.le_of_ble_eq_true rfl) ?_
      rintro v I5 S5 ⟨rfl, hI5, hS5⟩
      change I5 = setI _ _ _ _ at hI5
      subst hI5 hS5
      dsimp only [Option.toList, List.nil_append]
      have hF3 := hF2.tr (U := ax_u (ax_u (ax_u R g 16 (some s)) (g + 84) 0 (some a)) (g + 85) 0 (some b)) ⟨fun q _ b1 => axu_row (by omega), fun k hk => axu_a (by omega)⟩
      have hg3 := mgT_fr hg hF3
      refine x_aload_n (pc := 121) hC dX3_meetConflict_121 rfl ?_
      refine x_getO (pc := 122) hC gf_X3_50 dX3_meetConflict_122 hg.1 hg3.2.2.2.2.2.2.2.2.2.2.1.1 ?_
      refine x_aload_n (pc := 125) hC dX3_meetConflict_125 rfl ?_
      refine x_getO (pc := 126) hC gf_X3_41 dX3_meetConflict_126 hg.1 hg3.2.2.2.2.2.2.2.1.1 ?_
      refine x_getO (pc := 129) hC gf_X3_124 dX3_meetConflict_129 hg3.2.2.2.2.2.2.2.1.2 (Eq.trans (axu_a (by omega)) (Eq.trans (axu_a (by omega)) (Eq.trans (axu_a (by omega)) w3.1))) ?_
      refine x_aload_n (pc := 132) hC dX3_meetConflict_132 rfl ?_
      refine x_getO (pc := 133) hC gf_X3_41 dX3_meetConflict_133 hg.1 hg3.2.2.2.2.2.2.2.1.1 ?_
      refine x_getI (pc := 136) hC gf_X3_127 dX3_meetConflict_136 hg3.2.2.2.2.2.2.2.1.2 ?_
      refine x_aload_n (pc := 139) hC dX3_meetConflict_139 rfl ?_
      refine x_getO (pc := 140) hC gf_X3_41 dX3_meetConflict_140 hg.1 hg3.2.2.2.2.2.2.2.1.1 ?_
      refine x_getI (pc := 143) hC gf_X3_127 dX3_meetConflict_143 hg3.2.2.2.2.2.2.2.1.2 ?_
      refine x_aload_n (pc := 146) hC dX3_meetConflict_146 rfl ?_
      refine x_getO (pc := 147) hC gf_X3_41 dX3_meetConflict_147 hg.1 hg3.2.2.2.2.2.2.2.1.1 ?_
      refine x_getI (pc := 150) hC gf_X3_130 dX3_meetConflict_150 hg3.2.2.2.2.2.2.2.1.2 ?_
      refine x_iadd (pc := 153) hC dX3_meetConflict_153 ?_
      rw [setI_o (by omega), setI_o (by omega), x5, x6]
      refine x_rV (pc := 154) hC cv_X3_89 dX3_meetConflict_154 (c_setTo hg.2.2.2.2.2.2.2.2.2.2.1.2 ht.1 (by omega) r3.1 (by omega) (by omega)) hg3.2.2.2.2.2.2.2.2.2.2.1.2 rfl (by decide) rfl rfl (Nat.le_of_ble_eq_true rfl) ?_
      rintro v I5 S5 ⟨rfl, hI5, hS5⟩
      change I5 = setI _ _ _ _ at hI5
      subst hI5 hS5
      dsimp only [Option.toList, List.nil_append]
      refine x_aload_n (pc := 157) hC dX3_meetConflict_157 rfl ?_
      refine x_dup (pc := 158) hC dX3_meetConflict_158 rfl ?_
      refine x_getI (pc := 159) hC gf_X3_77 dX3_meetConflict_159 hg.1 ?_
      refine x_iconst (pc := 162) hC dX3_meetConflict_162 ?_
      refine x_iadd (pc := 163) hC dX3_meetConflict_163 ?_
      refine x_putI (pc := 164) hC pf_X3_77 dX3_meetConflict_164 hg.1 (by decide) ?_
      refine x_vret (pc := 167) hC rfl dX3_meetConflict_167 ?_
      first
      | (rw [if_pos ⟨rfl, b46⟩, setI_o (by omega), setI_o (by omega), setI_o (by omega), j5, List.append_nil]
         have kI : ∀ q, q ≠ g → q ≠ g + 84 → q ≠ g + 85 → q ≠ g + 86 → (ax_u (setI (setI (setI J (g + 84) i1 (i1 + (e1 - i1))) (g + 85) i2 (i2 + (e2 - i2))) (g + 86) i3 (i3 + (e3 - i3))) g 5 (I g 5 + 1)) q = J q := fun q a0 a1 a2 a3 => by rw [axu_row a0, setI_o a3, setI_o a2, setI_o a1]
         have kg : ∀ k, k ≠ 5 → (ax_u (setI (setI (setI J (g + 84) i1 (i1 + (e1 - i1))) (g + 85) i2 (i2 + (e2 - i2))) (g + 86) i3 (i3 + (e3 - i3))) g 5 (I g 5 + 1)) g k = J g k := fun k hk => by rw [axu_j hk, setI_o (by omega), setI_o (by omega), setI_o (by omega)]
         refine ⟨⟨rfl, ⟨fun q h => (kI q (by omega) (by omega) (by omega) (by omega)).trans (hJI q (by omega) (by omega)), fun q h => by rw [axu_row (by omega), axu_row (by omega), axu_row (by omega), axu_row (by omega)]⟩, hF3.tr ⟨fun q _ b1 => axu_row (by omega), fun k hk => axu_a (by omega)⟩, ⟨(kI _ (by omega) (by omega) (by omega) (by omega)).trans (hJI _ (by omega) (by omega)), (kI _ (by omega) (by omega) (by omega) (by omega)).trans (hJI _ (by omega) (by omega)), (kg 1 (by decide)).trans (hJg 1 (by decide))⟩, ⟨⟨(kg 3 (by decide)).trans hL1.1, by rw [kI (g + 2) (by omega) (by omega) (by omega) (by omega)]; exact hL1.2⟩, (kg 4 (by decide)).trans hJ4, axu_s⟩, ⟨?_, ?_, ?_⟩, ⟨?_, ?_, ?_⟩, ⟨?_, ?_, ?_⟩⟩, rfl, rfl, rfl⟩
         · rw [axu_a (by omega), axu_a (by omega), axu_s]
         · rw [axu_a (by omega), setI_o (by omega), setI_o (by omega), setI_1]
         · rw [axu_a (by omega), setI_o (by omega), setI_o (by omega), setI_2]; omega
         · rw [axu_a (by omega), axu_s]
         · rw [axu_a (by omega), setI_o (by omega), setI_1]
         · rw [axu_a (by omega), setI_o (by omega), setI_2]; omega
         · rw [axu_s]
         · rw [axu_a (by omega), setI_1]
         · rw [axu_a (by omega), setI_2]; omega)
      | (rw [if_neg (fun h => b46 h.2), j5, List.append_nil]
         refine ⟨⟨rfl, ⟨fun q h => (axu_row (by omega)).trans (hJI q (by omega) (by omega)), fun q h => axu_row (by omega)⟩, hF1, ⟨(axu_row (by omega)).trans (hJI _ (by omega) (by omega)), (axu_row (by omega)).trans (hJI _ (by omega) (by omega)), (axu_j (by decide)).trans (hJg 1 (by decide))⟩, ⟨⟨(axu_j (by decide)).trans hL1.1, by rw [axu_row (by omega)]; exact hL1.2⟩, (axu_j (by decide)).trans hJ4, axu_s⟩, fun q h1 h2 => ⟨(axu_row (by omega)).trans (hJI q (by omega) (by omega)), axu_row (by omega)⟩⟩, rfl, rfl, rfl⟩)
  · dsimp only [Option.toList]
    have hgc : gapC rs B O Th = (rsv (cShape B O Th).2 p.2, 1, 0) := by unfold gapC; rw [hf]
    have hpm := rfind_mem hf
    have hpn := hn p hpm
    rw [hgc]
    refine x_astore_n (pc := 30) hC dX3_meetConflict_30 (Nat.le_of_ble_eq_true rfl) ?_
    dsimp only [List.set]
    refine x_aload_n (pc := 31) hC dX3_meetConflict_31 rfl ?_
    refine x_ifnull (pc := 32) hC 41 dX3_meetConflict_32 (by decide) (fun h => by cases h) (fun _ _ => ?_)
    refine x_aload_n (pc := 35) hC dX3_meetConflict_35 rfl ?_
    refine x_aload_n (pc := 36) hC dX3_meetConflict_36 rfl ?_
    refine x_mVx (pc := 37) hC cv_X3_120 dX3_meetConflict_37 (c_addResolved hg1 hL1 hsh hsT hsS (by omega) hOo hpn.2.2.1 (cShape_names (hrk p hpm) (rfind_eq hf)) (by omega) (by omega)) hg.1 rfl (by decide) rfl rfl (Nat.le_of_ble_eq_true rfl) ?_
    rintro v K ⟨rfl, hK, hKF⟩
    dsimp only [Option.toList, List.nil_append]
    refine x_vret (pc := 40) hC rfl dX3_meetConflict_40 ?_
    refine ⟨⟨rfl, ⟨fun q h => (hKF.1 q (by omega) (by omega)).trans (hJI q (by omega) (by omega)), fun q h => axu_row (by omega)⟩, hF1, ⟨(hKF.1 _ (by omega) (by omega)).trans (hJI _ (by omega) (by omega)), (hKF.1 _ (by omega) (by omega)).trans (hJI _ (by omega) (by omega)), (hKF.2 1 (by decide)).trans (hJg 1 (by decide))⟩, ⟨hK, (hKF.2 4 (by decide)).trans hJ4, ?_⟩, ?_⟩, rfl, rfl, rfl⟩
    · rw [hKF.2 5 (by decide), hJg 5 (by decide)]; exact (Int.add_zero _).symm
    · rw [if_neg (fun h => absurd h.1 (by decide))]
      exact fun q h1 h2 => ⟨(hKF.1 q (by omega) (by omega)).trans (hJI q (by omega) (by omega)), axu_row (by omega)⟩

