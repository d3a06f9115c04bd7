/-! WHAT HOLDS BETWEEN CALLS: commits, replays, resolutions -/
theorem pu_row {σ : Nat → Int → Int} {o x : Nat} {c q : Int} {L : List Int} (h1 : o + 6 < x) (h2 : x ≠ o + 29) : puF σ o c L q x = σ x := by
  unfold puF
  split
  · rw [axu_row h2, puA_row h2]
  · split
    · rw [axu_row h2, lay_row (by omega) (by omega), puA_row h2]
    · rw [axu_row h2, lay_row (by omega) (by omega), axu_row (by omega), md_row (by omega) (by omega), puA_row h2]
theorem pu_3 {σ : Nat → Int → Int} {o : Nat} {c q : Int} {L : List Int} : puF σ o c L q o 3 ≤ σ o 3 + 1 := by
  have aO : (puA σ o q) o = σ o := puA_row (by omega)
  unfold puF
  split
  · rw [axu_a (by omega), aO]; omega
  · split
    · rw [axu_a (by omega), lay_row (by omega) (by omega), aO]; omega
    · rw [axu_a (by omega), lay_row (by omega) (by omega), axu_j (by decide), md_o3, aO]; omega
/-- how a replay that goes on ends -/
theorem goF_c {o : Nat} : ∀ (n : Nat) (fl : Int) (σ : Nat → Int → Int), cI σ o → (σ o 46 - σ o 47).toNat = n → (fl = 0 → σ o 47 < σ o 46 → ¬ thP σ o (goX σ o) (σ o 41) (σ o 42)) → ∃ ρ : Nat → Int → Int, cI ρ o ∧ (ρ (o + 7) = σ (o + 7) ∧ (∀ x, o + 24 ≤ x → x < o + 28 → ρ x = σ x) ∧ ρ o 35 = σ o 35 ∧ ρ o 44 = σ o 44 ∧ ρ o 3 ≤ σ o 3 + n) ∧ ((goF o n fl σ).2 = ax_u ρ (o + 7) (ρ o 41) (ρ o 43) ∨ ∃ s : Int, (s = 1 ∨ s = 2) ∧ (goF o n fl σ).2 = ax_u ρ o 40 s ∧ ρ o 47 < ρ o 46 ∧ ¬ thP ρ o (goX ρ o) (ρ o 41) (ρ o 42)) := by
  intro n
  induction n with
  | zero =>
    intro fl σ h1 h2 h3
    exact ⟨σ, h1, ⟨rfl, fun _ _ _ => rfl, rfl, rfl, by omega⟩, Or.inl (by unfold goF; rfl)⟩
  | succ n ih =>
    intro fl σ h1 h2 h3
    have h47 : σ o 47 < σ o 46 := by omega
    unfold goF
    by_cases k1 : fl ≠ 0 ∧ thP σ o (goX σ o) (σ o 41) (σ o 42)
    · rw [if_pos k1]
      have eo : ∀ k, k ≠ 47 → goL σ o o k = σ o k := fun k hk => by unfold goL nxt; rw [axu_j hk, axu_a (by omega)]
      have e47 : goL σ o o 47 = σ o 47 + 1 := by unfold goL nxt; rw [axu_s, axu_a (by omega)]
      have eq : ∀ q, q ≠ o → q ≠ o + 29 → goL σ o q = σ q := fun q h1 h2 => by unfold goL nxt; rw [axu_row h1, axu_row h2]
      obtain ⟨ρ, r1, ⟨r2, r3, r4, r5, r6⟩, r7⟩ := ih 1 (goL σ o) (cI_L h1 h47) (by rw [eo 46 (by decide), e47]; omega) (fun h9 => absurd h9 (by decide))
      refine ⟨ρ, r1, ⟨?_, fun x x1 x2 => ?_, ?_, ?_, ?_⟩, r7⟩
      · rw [r2, eq _ (by omega) (by omega)]
      · rw [r3 x x1 x2, eq _ (by omega) (by omega)]
      · rw [r4, eo 35 (by decide)]
      · rw [r5, eo 44 (by decide)]
      · rw [eo 3 (by decide)] at r6; omega
    · rw [if_neg k1]
      by_cases k2 : stp (goM σ o) = 0
      · rw [if_pos k2]
        have hL : ((goM σ o).1.length : Int) ≤ 16 := by
          unfold stp at k2
          by_cases q1 : (goM σ o).2.2.length > 0
          · rw [if_pos q1] at k2; omega
          · rw [if_neg q1] at k2
            by_cases q2 : (goM σ o).1.length > 16
            · rw [if_pos q2] at k2; omega
            · omega
        obtain ⟨p1, p2, p3⟩ := cI_P (c := goX σ o) (q := (goM σ o).2.1) h1 h47 hL (goM_ln h1.1)
        have eo : ∀ k, k ≠ 47 → goP σ o o k = puF σ o (goX σ o) (goM σ o).1 (goM σ o).2.1 o k := fun k hk => by unfold goP nxt; rw [axu_j hk]
        have eq : ∀ q, q ≠ o → goP σ o q = puF σ o (goX σ o) (goM σ o).1 (goM σ o).2.1 q := fun q hq => by unfold goP nxt; rw [axu_row hq]
        have e47 : goP σ o o 47 = σ o 47 + 1 := by unfold goP nxt; rw [axu_s, p3]
        obtain ⟨ρ, r1, ⟨r2, r3, r4, r5, r6⟩, r7⟩ := ih 1 (goP σ o) p1 (by rw [eo 46 (by decide), e47, p2]; omega) (fun h9 => absurd h9 (by decide))
        have p4 := pu_3 (σ := σ) (o := o) (c := goX σ o) (q := (goM σ o).2.1) (L := (goM σ o).1)
        refine ⟨ρ, r1, ⟨?_, fun x x1 x2 => ?_, ?_, ?_, ?_⟩, r7⟩
        · rw [r2, eq _ (by omega), pu_row (by omega) (by omega)]
        · rw [r3 x x1 x2, eq _ (by omega), pu_row (by omega) (by omega)]
        · rw [r4, eo 35 (by decide), pu_o (by decide) (by decide) (by decide) (by decide)]
        · rw [r5, eo 44 (by decide), pu_o (by decide) (by decide) (by decide) (by decide)]
        · rw [eo 3 (by decide)] at r6; omega
      · rw [if_neg k2]
        have k3 := stp_r (goM σ o)
        refine ⟨σ, h1, ⟨rfl, fun _ _ _ => rfl, rfl, rfl, by omega⟩, Or.inr ⟨stp (goM σ o), by omega, rfl, h47, ?_⟩⟩
        by_cases k4 : fl = 0
        · exact h3 k4 h47
        · exact fun h9 => k1 ⟨k4, h9⟩
theorem iv_goF {o n : Nat} {fl m : Int} {σ : Nat → Int → Int} (h1 : cI σ o) (h2 : (σ o 46 - σ o 47).toNat = n) (h3 : fl = 0 → σ o 47 < σ o 46 → ¬ thP σ o (goX σ o) (σ o 41) (σ o 42)) (hK : miK σ o) (ht : ∀ b, 0 ≤ b → b < 4 → σ (o + 7) b < σ o 44) (hm : σ o 3 ≤ m) : INV (goF o n fl σ).2 o (m + 25) := by
  obtain ⟨ρ, r1, ⟨r2, r3, r4, r5, r6⟩, r7⟩ := goF_c n fl σ h1 h2 h3
  have hn : (n : Int) ≤ 24 := by have := h1.1.2.2.1; omega
  obtain ⟨⟨c1, c2, c3⟩, c4, c5, c6, c7, c8, c9, c10⟩ := r1
  have kR := miK_fr hK (r3 _ (by omega) (by omega)) (r3 _ (by omega) (by omega)) (r3 _ (by omega) (by omega)) (r3 _ (by omega) (by omega)) r4
  rcases r7 with e1 | ⟨s, s1, e1, s2, s3⟩
  · rw [e1]
    have er : ∀ q, q ≠ o + 7 → ax_u ρ (o + 7) (ρ o 41) (ρ o 43) q = ρ q := fun q hq => axu_row hq
    have eo : ax_u ρ (o + 7) (ρ o 41) (ρ o 43) o = ρ o := axu_row (by omega)
    refine ⟨⟨by rw [eo]; exact c1.1, ?_, ?_, ?_, fun d d0 d1 => ?_, ?_⟩, miR_eq (by rw [eo]) (er _ (by omega)) (er _ (by omega)) (er _ (by omega)) (er _ (by omega)) c2, miS_fr c4 (by rw [eo]) (er _ (by omega)) (fun q h1 h2 => er q (by omega)), miK_fr kR (er _ (by omega)) (er _ (by omega)) (er _ (by omega)) (er _ (by omega)) (by rw [eo]), by rw [er _ (by omega)]; exact c9, by rw [eo]; omega, fun h9 => ?_, by rw [eo]; omega⟩
    · unfold lnOk; rw [er _ (by omega), er _ (by omega)]; exact c1.2.1
    · rw [er _ (by omega), eo]; exact c1.2.2.1
    · rw [er _ (by omega)]; exact c1.2.2.2.1
    · rw [eo]
      by_cases e2 : d = ρ o 41
      · rw [e2, axu_s]; exact c3.2.2.1
      · rw [axu_j e2]; exact c1.2.2.2.2.1 d d0 d1
    · rw [er _ (by omega)]; exact c1.2.2.2.2.2
    · rw [eo] at h9; exact absurd c10 h9
  · rw [e1]
    have er : ∀ q, q ≠ o → ax_u ρ o 40 s q = ρ q := fun q hq => axu_row hq
    have eo : ∀ k, k ≠ 40 → ax_u ρ o 40 s o k = ρ o k := fun k hk => axu_j hk
    have hst : STP ρ o := ⟨c3, s2, c5, c6, c7, c8, fun b b0 b1 => by rw [r2, r5]; exact ht b b0 b1, s3⟩
    exact ⟨e_miC c1, e_miR c2, e_miS c4, miK_fr kR (er _ (by omega)) (er _ (by omega)) (er _ (by omega)) (er _ (by omega)) (eo _ (by decide)), by rw [er _ (by omega)]; exact c9, by rw [axu_s]; omega, fun _ => STP_fr hst (er _ (by omega)) (er _ (by omega)) (er _ (by omega)) (er _ (by omega)) (er _ (by omega)) (er _ (by omega)) (fun k hk => eo k (by omega)), by rw [eo 3 (by decide)]; omega⟩
theorem iv_go {σ : Nat → Int → Int} {o : Nat} {n : Int} (h : INV σ o n) : INV (goR σ o).2 o (n + 25) := by
  unfold goR
  by_cases h0 : σ o 40 = 0
  · rw [if_pos h0]; exact iv_up h (by omega)
  · rw [if_neg h0]
    obtain ⟨c1, c2⟩ := iv_hc h h0
    have hs := iv_st h h0
    refine iv_goF c1 (by rw [e_fld (by decide), e_fld (by decide)]) (fun _ _ => ?_) (miK_fr (iv_K h) (e_row (by omega)) (e_row (by omega)) (e_row (by omega)) (e_row (by omega)) (e_fld (by decide))) ?_ (by rw [e_fld (by decide)]; exact iv_n h)
    · rw [thP_fr (e_row (by omega)) (e_row (by omega)) (e_row (by omega)) (e_row (by omega)) (e_row (by omega)) (e_fld (by decide))]
      unfold goX at *
      rw [e_row (by omega), e_fld (by decide), e_fld (by decide), e_fld (by decide)]
      exact c2
    · rw [e_row (by omega), e_fld (by decide)]; exact hs.2.2.2.2.2.2.1
theorem goL_40 {σ : Nat → Int → Int} {o : Nat} {e : Int} : ax_u (goL σ o) o 40 e = goL (ax_u σ o 40 e) o := by
  unfold goL nxt
  rw [axu_a (show o ≠ o + 29 by omega), axu_a (show o ≠ o + 29 by omega), axu_j (show (47 : Int) ≠ 40 by decide), axu_a (show o + 29 ≠ o by omega)]
  funext b i
  unfold ax_u
  repeat' split
  all_goals first | rfl | (exfalso; omega)
theorem iv_sk {σ : Nat → Int → Int} {o : Nat} {n : Int} (h : INV σ o n) : INV (skR σ o).2 o (n + 25) := by
  unfold skR
  by_cases h0 : σ o 40 = 0
  · rw [if_pos h0]; exact iv_up h (by omega)
  · rw [if_neg h0, goL_40]
    obtain ⟨c1, c2⟩ := iv_hc h h0
    have hs := iv_st h h0
    have h47 := hs.2.1
    have eo : ∀ k, k ≠ 40 → k ≠ 47 → goL (ax_u σ o 40 0) o o k = σ o k := fun k k1 k2 => by unfold goL nxt; rw [axu_j k2, axu_a (by omega), axu_j k1]
    have e47 : goL (ax_u σ o 40 0) o o 47 = σ o 47 + 1 := by unfold goL nxt; rw [axu_s, axu_a (by omega), axu_j (by decide)]
    have eq : ∀ q, q ≠ o → q ≠ o + 29 → goL (ax_u σ o 40 0) o q = σ q := fun q h1 h2 => by unfold goL nxt; rw [axu_row h1, axu_row h2, axu_row h1]
    refine iv_goF (cI_L c1 (by rw [e_fld (by decide), e_fld (by decide)]; exact h47)) (by rw [eo 46 (by decide) (by decide), e47]) (fun h9 => absurd h9 (by decide)) (miK_fr (iv_K h) (eq _ (by omega) (by omega)) (eq _ (by omega) (by omega)) (eq _ (by omega) (by omega)) (eq _ (by omega) (by omega)) (eo 35 (by decide) (by decide))) ?_ (by rw [eo 3 (by decide) (by decide)]; exact iv_n h)
    rw [eq _ (by omega) (by omega), eo 44 (by decide) (by decide)]; exact hs.2.2.2.2.2.2.1
theorem miK_rs {X : Nat → Int → Int} {o : Nat} (h35 : 0 ≤ X o 35 ∧ X o 35 ≤ 8) (h24 : ∀ j, 0 ≤ X (o + 24) j ∧ X (o + 24) j < 100) (h25 : ∀ k, 0 ≤ X (o + 25) k ∧ X (o + 25) k ≤ 51) (h26 : ∀ j, 0 ≤ X (o + 26) j ∧ X (o + 26) j < 200) (h27 : ∀ k, 0 ≤ X (o + 27) k ∧ X (o + 27) k ≤ 6) (hr : ∀ p ∈ kpL X o, rwOk p.1 p.2) : miK X o := ⟨h35, h24, h25, h26, h27, fun k _ p hp => hr p (List.mem_of_getElem? hp)⟩
theorem kp_ok {σ : Nat → Int → Int} {o : Nat} (h : miK σ o) : ∀ p ∈ kpL σ o, rwOk p.1 p.2 := fun p hp => by
  obtain ⟨k, hk⟩ := List.mem_iff_getElem?.mp hp
  have hk2 : k < (kpL σ o).length := by
    rcases Nat.lt_or_ge k (kpL σ o).length with h9 | h9
    · exact h9
    · rw [List.getElem?_eq_none h9] at hk; cases hk
  have e1 : (kpL σ o).length = (σ o 35).toNat := by unfold kpL; rw [List.length_map, List.length_range]
  exact h.2.2.2.2.2 k (by omega) p hk
/-- rows that are kept: in their bounds -/
theorem kp_rg {Y : Nat → Int → Int} {o : Nat} {b : Int} {p1 p2 p3 p4 : Int → Prop} (h20 : ∀ j, p1 (Y (o + 20) j)) (h24 : ∀ j, p1 (Y (o + 24) j)) (h21 : ∀ j, p2 (Y (o + 21) j)) (h25 : ∀ j, p2 (Y (o + 25) j)) (h22 : ∀ j, p3 (Y (o + 22) j)) (h26 : ∀ j, p3 (Y (o + 26) j)) (h23 : ∀ j, p4 (Y (o + 23) j)) (h27 : ∀ j, p4 (Y (o + 27) j)) : ((∀ j, p1 (kpI Y o b (o + 20) j)) ∧ (∀ j, p2 (kpI Y o b (o + 21) j)) ∧ (∀ j, p3 (kpI Y o b (o + 22) j)) ∧ ∀ j, p4 (kpI Y o b (o + 23) j)) ∧ (∀ j, p1 (kpI Y o b (o + 24) j)) ∧ (∀ j, p2 (kpI Y o b (o + 25) j)) ∧ (∀ j, p3 (kpI Y o b (o + 26) j)) ∧ ∀ j, p4 (kpI Y o b (o + 27) j) := by
  have g1 : ∀ i, p1 (kpG Y b (o + 20) (o + 24) i) := fun i => by unfold kpG; split; exact h20 i; exact h24 i
  have g2 : ∀ i, p2 (kpG Y b (o + 21) (o + 25) i) := fun i => by unfold kpG; split; exact h21 i; exact h25 i
  have g3 : ∀ i, p3 (kpG Y b (o + 22) (o + 26) i) := fun i => by unfold kpG; split; exact h22 i; exact h26 i
  have g4 : ∀ i, p4 (kpG Y b (o + 23) (o + 27) i) := fun i => by unfold kpG; split; exact h23 i; exact h27 i
  have e0 : ∀ q, q ≠ o → q ≠ o + 29 → q ≠ o + 30 → kpI Y o b q = kpF Y o b 408 48 8 q := fun q a1 a2 a3 => by unfold kpI; rw [axf_row a3, axf_row a2, axu_row a1, axu_row a1]
  refine ⟨⟨?_, ?_, ?_, ?_⟩, ?_, ?_, ?_, ?_⟩
  all_goals (rw [e0 _ (by omega) (by omega) (by omega)]; unfold kpF)
  · rw [axf_row (by omega), axf_row (by omega), axf_row (by omega), axf_row (by omega), axf_row (by omega), axf_row (by omega), axf_row (by omega)]
    exact f_rg h20 (fun i _ _ => g1 i)
  · rw [axf_row (by omega), axf_row (by omega), axf_row (by omega)]
    refine f_rg ?_ (fun i _ _ => g2 i)
    rw [axf_row (by omega), axf_row (by omega), axf_row (by omega), axf_row (by omega)]; exact h21
  · rw [axf_row (by omega), axf_row (by omega), axf_row (by omega), axf_row (by omega), axf_row (by omega)]
    refine f_rg ?_ (fun i _ _ => g3 i)
    rw [axf_row (by omega), axf_row (by omega)]; exact h22
  · rw [axf_row (by omega)]
    refine f_rg ?_ (fun i _ _ => g4 i)
    rw [axf_row (by omega), axf_row (by omega), axf_row (by omega), axf_row (by omega), axf_row (by omega), axf_row (by omega)]; exact h23
  · rw [axf_row (by omega), axf_row (by omega), axf_row (by omega), axf_row (by omega), axf_row (by omega), axf_row (by omega)]
    refine f_rg ?_ (fun i _ _ => g1 i)
    rw [axf_row (by omega)]; exact h24
  · rw [axf_row (by omega), axf_row (by omega)]
    refine f_rg ?_ (fun i _ _ => g2 i)
    rw [axf_row (by omega), axf_row (by omega), axf_row (by omega), axf_row (by omega), axf_row (by omega)]; exact h25
  · rw [axf_row (by omega), axf_row (by omega), axf_row (by omega), axf_row (by omega)]
    refine f_rg ?_ (fun i _ _ => g3 i)
    rw [axf_row (by omega), axf_row (by omega), axf_row (by omega)]; exact h26
  · refine f_rg ?_ (fun i _ _ => g4 i)
    rw [axf_row (by omega), axf_row (by omega), axf_row (by omega), axf_row (by omega), axf_row (by omega), axf_row (by omega), axf_row (by omega)]; exact h27
theorem iv_ab {σ : Nat → Int → Int} {o : Nat} {n : Int} (h : INV σ o n) : INV (abR σ o).2 o n := by
  unfold abR
  by_cases h0 : σ o 40 = 0
  · rw [if_pos h0]; exact h
  · rw [if_neg h0]
    obtain ⟨s1, s2, s3, s4, s5, s6, s7, s8⟩ := iv_st h h0
    have hC := iv_C h
    have hR := iv_R h
    have hK := iv_K h
    have p44 := s1.2.2.2.2.2
    have p42 := s1.2.2.2.1
    obtain ⟨Y, hY⟩ : ∃ Y, Y = ax_u (ax_u σ o 2 (σ o 44)) o 40 0 := ⟨_, rfl⟩
    have yo : ∀ k, k ≠ 2 → k ≠ 40 → Y o k = σ o k := fun k k1 k2 => by rw [hY, axu_j k2, axu_j k1]
    have y2 : Y o 2 = σ o 44 := by rw [hY, axu_j (by decide), axu_s]
    have y40 : Y o 40 = 0 := by rw [hY, axu_s]
    have yq : ∀ q, q ≠ o → Y q = σ q := fun q hq => by rw [hY, axu_row hq, axu_row hq]
    show INV (kpI (ax_u (ax_u σ o 2 (σ o 44)) o 40 0) o 1) o n
    rw [← hY]
    obtain ⟨X, hX⟩ : ∃ X, X = kpI Y o 1 := ⟨_, rfl⟩
    obtain ⟨x1, x2, x3, x4, x5, x6, x7, x8, x9⟩ := kp1_x hX
    have hg := kp_rg (Y := Y) (o := o) (b := 1) (p1 := fun v => 0 ≤ v ∧ v < 100) (p2 := fun v => 0 ≤ v ∧ v ≤ 51) (p3 := fun v => 0 ≤ v ∧ v < 200) (p4 := fun v => 0 ≤ v ∧ v ≤ 6) (by rw [yq _ (by omega)]; exact hR.2.1) (by rw [yq _ (by omega)]; exact hK.2.1) (by rw [yq _ (by omega)]; exact hR.2.2.1) (by rw [yq _ (by omega)]; exact hK.2.2.1) (by rw [yq _ (by omega)]; exact hR.2.2.2.1) (by rw [yq _ (by omega)]; exact hK.2.2.2.1) (by rw [yq _ (by omega)]; exact hR.2.2.2.2.1) (by rw [yq _ (by omega)]; exact hK.2.2.2.2.1)
    rw [← hX] at hg ⊢
    obtain ⟨⟨g1, g2, g3, g4⟩, g5, g6, g7, g8⟩ := hg
    have xq : ∀ q, q ≠ o → (q < o + 20 ∨ q = o + 28 ∨ o + 30 < q) → X q = σ q := fun q q1 q2 => (x9 q q1 q2).trans (yq q q1)
    have xo : ∀ k, k ≠ 2 → k ≠ 40 → k ≠ 30 → k ≠ 35 → X o k = σ o k := fun k k1 k2 k3 k4 => (x3 k k3 k4).trans (yo k k1 k2)
    have xo2 : X o 2 = σ o 44 := (x3 2 (by decide) (by decide)).trans y2
    have xo40 : X o 40 = 0 := (x3 40 (by decide) (by decide)).trans y40
    have x30 : X o 30 = σ o 35 := x1.trans (yo 35 (by decide) (by decide))
    have x35 : X o 35 = σ o 35 := x2.trans (yo 35 (by decide) (by decide))
    have y4 := yq (o + 24) (by omega)
    have y5 := yq (o + 25) (by omega)
    have y6 := yq (o + 26) (by omega)
    have y7 := yq (o + 27) (by omega)
    rw [y4] at x4
    rw [y5] at x5
    rw [y6] at x6
    rw [y7] at x7
    have eR : rsL X o = kpL σ o := kp1_rs hK x30 (fun j a1 a2 => (x4 j a1 a2).1) (fun j a1 a2 => (x5 j a1 a2).1) (fun j a1 a2 => (x6 j a1 a2).1) (fun j a1 a2 => (x7 j a1 a2).1)
    have eK : kpL X o = kpL σ o := by
      unfold kpL
      rw [x35]
      apply List.map_congr_left
      intro k hk
      have h1 := hK.1
      have hk2 : (k : Int) < 8 := by have := List.mem_range.mp hk; omega
      have h3 := hK.2.2.1 k
      have h5 := hK.2.2.2.2.1 k
      rw [(x5 k (by omega) hk2).2, (x7 k (by omega) hk2).2, seg_congr (g := σ (o + 24)) (fun i a1 a2 => (x4 i (by omega) (by omega)).2), seg_congr (f := X (o + 26)) (g := σ (o + 26)) (fun i a1 a2 => (x6 i (by omega) (by omega)).2)]
    refine ⟨⟨by rw [xo2]; omega, ?_, ?_, ?_, fun b b0 b1 => ?_, ?_⟩, miR_rs (by rw [x30]; exact hK.1) g1 g2 g3 g4 (by rw [eR]; exact kp_ok hK), miS_fr (iv_S h) (xo 3 (by decide) (by decide) (by decide) (by decide)) (xq _ (by omega) (by omega)) (fun q h1 h2 => xq q (by omega) (by omega)), miK_rs (by rw [x35]; exact hK.1) g5 g6 g7 g8 (by rw [eK]; exact kp_ok hK), by rw [xq _ (by omega) (by omega)]; exact iv_0 h, by rw [xo40]; omega, fun h9 => absurd xo40 h9, by rw [xo 3 (by decide) (by decide) (by decide) (by decide)]; exact iv_n h⟩
    · unfold lnOk; rw [xq _ (by omega) (by omega), xq _ (by omega) (by omega)]; exact hC.2.1
    · rw [xq _ (by omega) (by omega), xo2]
      exact ⟨hC.2.2.1.1, fun y y0 y1 => hC.2.2.1.2 y y0 (by omega)⟩
    · rw [xq _ (by omega) (by omega)]; exact hC.2.2.2.1
    · rw [xq _ (by omega) (by omega), xo2]
      exact ⟨(hC.2.2.2.2.1 b b0 b1).1, s7 b b0 b1⟩
    · rw [xq _ (by omega) (by omega)]; exact hC.2.2.2.2.2
theorem iv_pl {σ : Nat → Int → Int} {o : Nat} {n b c : Int} (h : INV σ o n) (h0 : σ o 40 = 0) : INV (plI σ o b c) o n := by
  have eo : ∀ k, k ≠ 46 → plI σ o b c o k = σ o k := fun k hk => pl_o hk
  have er : ∀ q, q ≠ o → q ≠ o + 28 → plI σ o b c q = σ q := fun q q1 q2 => pl_row q1 q2
  exact ⟨miC_eq (eo 2 (by decide)) (er _ (by omega) (by omega)) (er _ (by omega) (by omega)) (er _ (by omega) (by omega)) (er _ (by omega) (by omega)) (er _ (by omega) (by omega)) (iv_C h), miR_eq (eo 30 (by decide)) (er _ (by omega) (by omega)) (er _ (by omega) (by omega)) (er _ (by omega) (by omega)) (er _ (by omega) (by omega)) (iv_R h), miS_fr (iv_S h) (eo 3 (by decide)) (er _ (by omega) (by omega)) (fun q h1 h2 => er q (by omega) (by omega)), miK_fr (iv_K h) (er _ (by omega) (by omega)) (er _ (by omega) (by omega)) (er _ (by omega) (by omega)) (er _ (by omega) (by omega)) (eo 35 (by decide)), by rw [er _ (by omega) (by omega)]; exact iv_0 h, by rw [eo 40 (by decide)]; exact iv_40 h, fun h9 => absurd ((eo 40 (by decide)).trans h0) h9, by rw [eo 3 (by decide)]; exact iv_n h⟩
theorem iv_rpl {σ : Nat → Int → Int} {o : Nat} {n b c : Int} (h : INV σ o n) : INV (rpl σ o b c).2 o (n + 25) := by
  unfold rpl
  by_cases hq : (0 ≤ b ∧ b < 4) ∧ 0 ≤ c ∧ c < σ o 2
  · rw [if_pos hq]
    obtain ⟨hb, hc⟩ := hq
    by_cases h0 : σ o 40 = 0
    · rw [if_pos h0]
      by_cases hl : σ o 2 + ((tdL σ o b c).length : Int) ≤ 24
      · rw [if_pos hl]
        obtain ⟨X, hX⟩ : ∃ X, X = ax_u (rpE (plI σ o b c) o b c) o 40 0 := ⟨_, rfl⟩
        obtain ⟨⟨x40, x41, x42, x43, x44, x46, x47, x35⟩, xo, x28, x29, ⟨x24, x25, x26, x27, x30⟩, xq⟩ := rpX_x hX
        have hC := iv_C h
        have hR := iv_R h
        have hK := iv_K h
        have gX : gI X o := by
          have h9 := gI_rpE (b := b) (c := c) hC hR hb hc
          rw [hX]
          exact ⟨e_miC h9.1, e_miR h9.2.1, rp_e h9.2.2⟩
        have cX : cI X o := ⟨gX, miS_fr (iv_S h) (xo 3 (by omega)) (xq _ (by omega) (by omega)) (fun q e1 e2 => xq q (by omega) (by omega)), by rw [xo 2 (by omega), x46, x47]; omega, Or.inl (by rw [x43, x42]), by rw [x42, x44]; exact hc.2, by rw [x44, xo 2 (by omega)]; exact Int.le_refl _, by rw [xq _ (by omega) (by omega)]; exact iv_0 h, x40⟩
        have pq : ∀ q, q ≠ o → q ≠ o + 28 → plI σ o b c q = σ q := fun q q1 q2 => pl_row q1 q2
        have hg := kp_rg (Y := plI σ o b c) (o := o) (b := 0) (p1 := fun v => 0 ≤ v ∧ v < 100) (p2 := fun v => 0 ≤ v ∧ v ≤ 51) (p3 := fun v => 0 ≤ v ∧ v < 200) (p4 := fun v => 0 ≤ v ∧ v ≤ 6) (by rw [pq _ (by omega) (by omega)]; exact hR.2.1) (by rw [pq _ (by omega) (by omega)]; exact hK.2.1) (by rw [pq _ (by omega) (by omega)]; exact hR.2.2.1) (by rw [pq _ (by omega) (by omega)]; exact hK.2.2.1) (by rw [pq _ (by omega) (by omega)]; exact hR.2.2.2.1) (by rw [pq _ (by omega) (by omega)]; exact hK.2.2.2.1) (by rw [pq _ (by omega) (by omega)]; exact hR.2.2.2.2.1) (by rw [pq _ (by omega) (by omega)]; exact hK.2.2.2.2.1)
        have xr : ∀ q, q ≠ o → q ≠ o + 29 → X q = kpI (plI σ o b c) o 0 q := fun q q1 q2 => by rw [hX, axu_row q1, rpE_row q1 q2]
        obtain ⟨-, g5, g6, g7, g8⟩ := hg
        have kX : miK X o := miK_rs (by rw [x35]; exact hR.1) (by rw [xr _ (by omega) (by omega)]; exact g5) (by rw [xr _ (by omega) (by omega)]; exact g6) (by rw [xr _ (by omega) (by omega)]; exact g7) (by rw [xr _ (by omega) (by omega)]; exact g8) (by rw [kp0_rs hR x35 x24 x25 x26 x27]; exact rs_ok hR)
        rw [← hX]
        refine iv_goF cX (by rw [x46, x47, Int.sub_zero, Int.toNat_natCast]) (fun h9 => absurd h9 (by decide)) kX (fun d d0 d1 => ?_) (by rw [xo 3 (by omega)]; exact iv_n h)
        rw [xq _ (by omega) (by omega), x44]
        exact (hC.2.2.2.2.1 d d0 d1).2
      · rw [if_neg hl]; exact iv_up (iv_pl h h0) (by omega)
    · rw [if_neg h0]; exact iv_up h (by omega)
  · rw [if_neg hq]; exact iv_up h (by omega)

