/-! THE CLASS: go, skip -/
set_option maxHeartbeats 4000000 in
set_option maxRecDepth 100000 in
theorem c_carry {G : ax_G} {T : Nat → Nat} {N : Nat → Int} {I : Nat → Int → Int} {R : Nat → Int → Option Nat} {z a o : Nat} {σ : Nat → Int → Int} {A w : Int → Nat} {e fl : Int} {W : Int × (Nat → Int → Int)} (h : Mid G T N I R z a o σ A w e) (c : cI σ o) (hfl : fl = 0 → σ o 47 < σ o 46 → ¬ thP σ o (goX σ o) (σ o 41) (σ o 42)) (hW : W = goF o (σ o 46 - σ o 47).toNat fl σ) : axM G YX11_carry 7 [vR a, vR (a + 183)] T N I R z 48 528 (fun r1 T1 N1 I1 R1 z1 => ∃ s σ2 A1 w1, r1 = some (vI s) ∧ fro a o T N I R T1 N1 I1 R1 ∧ z ≤ z1 ∧ Mid G T1 N1 I1 R1 z1 a o σ2 A1 w1 e ∧ cI σ2 o ∧ W = (if s = 0 then (0, ax_u σ2 (o + 7) (σ2 o 41) (σ2 o 43)) else (s, ax_u σ2 o 40 s)) ∧ (s = 0 ∨ s = 1 ∨ s = 2) ∧ (s ≠ 0 → σ2 o 47 < σ2 o 46 ∧ ¬ thP σ2 o (goX σ2 o) (σ2 o 41) (σ2 o 42))) := by

  refine ax_enter (by decide) (Nat.le_of_ble_eq_true rfl) (ax_cat rfl) (fun f hC => ?_)
  show axX G f 48 528 _ 0 [vR a, vR (a + 183), vU, vU] [] T N I R z 48 528
  have c1 := c.1.2.2.1
  exact c_carry_loop hC _ fl T N I R z σ A w _ _ 48 528 rfl h c (fun h1 h2 => hfl h1 (by omega)) hW (fun _ _ => ⟨rfl, rfl, rfl, rfl⟩) (Nat.le_refl _) (by omega) (by omega)

/-- the end of a going on -/
theorem mid_end {G : ax_G} {T : Nat → Nat} {N : Nat → Int} {I : Nat → Int → Int} {R : Nat → Int → Option Nat} {z a o : Nat} {σ : Nat → Int → Int} {A w : Int → Nat} {e s : Int} (h : Mid G T N I R z a o σ A w e) (c : cI σ o) : (s ≠ 0 → RelA G T N (ax_u I (a + 183) 8 s) R z a o (ax_u σ o 40 s) A w) ∧ RelA G T N (ax_u I (a + 183) 8 0) (ax_u R (a + 3) (σ o 41) (some (A (σ o 43)))) z a o (ax_u σ (o + 7) (σ o 41) (σ o 43)) A w := by
  have b1 := fx_b1 (rl_fx h.1)
  have key : ∀ s, RelA G T N (ax_u I (a + 183) 8 s) R z a o (ax_u σ o 40 s) A w := fun s => by
    refine rl_rep h.1 (fun q h1 _ _ => axu_row h1) (fun _ _ _ _ _ => rfl) (fun _ _ _ => rfl) (fun k hk => by rw [e_fld (by omega), e_fld (by omega)]) (fun q h1 _ => by rw [e_row h1, e_row h1]) (rl_r7 h.1).2 (fun k e0 e1 => by rw [axu_a (by omega), e_row (by omega)]; have := rl_fg h.1 k e0 e1; rw [e_row (by omega)] at this; exact this) (by rw [axu_s, axu_s]) (fun _ => e_rpK.mpr ?_)
    obtain ⟨k1, k2, k3, k4, k5, k6, k7, k8⟩ := h.2
    unfold rpK
    rw [axu_j (show (1 : Int) ≠ 8 by decide), axu_j (show (5 : Int) ≠ 8 by decide), axu_j (show (7 : Int) ≠ 8 by decide), axu_j (show (10 : Int) ≠ 8 by decide), axu_j (show (13 : Int) ≠ 8 by decide), axu_row (show a + 187 ≠ a + 183 by omega)]
    refine ⟨k1, k2, k3, k4, k5, k6, k7, fun k p hp => ?_⟩
    obtain ⟨q, x1, x2⟩ := k8 k p hp
    exact ⟨q, x1, reE_fr x2 (fun u hu _ hs => ⟨axu_row (by omega), hs⟩) (fun _ _ _ => rfl)⟩
  refine ⟨fun _ => key s, ?_⟩
  have h0 := key 0
  rw [axu_id (show (0 : Int) = σ o 40 from c.2.2.2.2.2.2.2.symm)] at h0
  have hrs := rl_rs h0
  refine rl_gen h0 (fun _ _ _ _ => rfl) (fun _ _ => rfl) (by rw [axu_a (show o ≠ o + 7 by omega)]; exact rl_f h0) (by rw [axu_a (show o ≠ o + 7 by omega)]; exact rl_t h0) (fun q h1 _ => axu_row h1) (fun k _ _ _ => axu_a (by omega)) (fun q _ h2 _ => axu_row h2) (fun d d0 d1 => ?_) ⟨?_, ?_, fun k p hp => ?_⟩ (fun j v a1 a2 hv => by rw [axu_row (by omega)] at hv; exact (rl_r7 h0).1 j v a1 a2 hv) (fun h9 => absurd c.2.2.2.2.2.2.2 h9)
  · by_cases ed : d = σ o 41
    · rw [ed, axu_s, axu_s]
    · rw [axu_j ed, axu_j ed]; exact rl_tp h0 d d0 d1
  · rw [rsL_eq (I := σ) (axu_a (by omega)) (axu_row (by omega)) (axu_row (by omega)) (axu_row (by omega)) (axu_row (by omega))]; exact hrs.1
  · rw [rsL_eq (I := σ) (axu_a (by omega)) (axu_row (by omega)) (axu_row (by omega)) (axu_row (by omega)) (axu_row (by omega))]; exact hrs.2.1
  · rw [rsL_eq (I := σ) (axu_a (by omega)) (axu_row (by omega)) (axu_row (by omega)) (axu_row (by omega)) (axu_row (by omega))] at hp
    rw [axu_row (by omega)]
    exact hrs.2.2 k p hp

set_option maxHeartbeats 4000000 in
set_option maxRecDepth 100000 in
theorem c_stopOr {G : ax_G} {T : Nat → Nat} {N : Nat → Int} {I : Nat → Int → Int} {R : Nat → Int → Option Nat} {z a o : Nat} {σ : Nat → Int → Int} {A w : Int → Nat} {e s : Int} {W : Int × (Nat → Int → Int)} (h : Mid G T N I R z a o σ A w e) (c : cI σ o) (hW : W = (if s = 0 then (0, ax_u σ (o + 7) (σ o 41) (σ o 43)) else (s, ax_u σ o 40 s))) (hs : s = 0 ∨ s = 1 ∨ s = 2) : axM G YX11_stopOrFinish 0 [vR a, vI s] T N I R z 0 0 (rPX G T N I R z a o (vI W.1) W.2) := by

  refine ax_enter (by decide) (Nat.le_of_ble_eq_true rfl) (ax_cat rfl) (fun f hC => ?_)
  show axX G f 0 0 _ 0 [vR a, vI s] [] T N I R z 0 0
  have hx := rl_fx h.1
  have b1 := fx_b1 hx
  have cp := c.1.2.2
  obtain ⟨⟨kb, -⟩, ⟨-, ktop⟩, -⟩ := h.2
  have m0 : ax_u σ o 40 e o 2 = σ o 2 := e_fld (by decide)
  have kt := (rl_wo h.1 (c := σ o 43) cp.2.2.1.1 (by rw [m0]; exact cp.2.2.1.2)).2.2.2.1
  obtain ⟨e1, e2⟩ := mid_end (s := s) h c
  have kb8 : ax_u I (a + 183) 8 s (a + 183) 1 = σ o 41 := by rw [axu_j (by decide)]; exact kb
  have cb := cp.2.2.2.2.1
  refine x_aload_n (pc := 0) hC dX11_stopOrFinish_0 rfl ?_
  refine x_getO (pc := 1) hC gf_X11_64 dX11_stopOrFinish_1 (fx_ta hx) (fx_cu hx).1 ?_
  refine x_iload_n (pc := 4) hC dX11_stopOrFinish_4 rfl ?_
  refine x_putI (pc := 5) hC pf_X11_270 dX11_stopOrFinish_5 (fx_cu hx).2.1.1 (by decide) ?_
  refine x_iload_n (pc := 8) hC dX11_stopOrFinish_8 rfl ?_
  refine x_if_ne (pc := 9) hC 31 dX11_stopOrFinish_9 (by decide) (by omega) (fun b9 => ?_) (fun b9 => ?_)
  · refine x_iload_n (pc := 31) hC dX11_stopOrFinish_31 rfl ?_
    refine x_iret (pc := 32) hC rfl dX11_stopOrFinish_32 ?_
    first
    | (rw [if_neg (by assumption)] at hW
       rw [hW]
       exact ⟨rfl, fun q hq => ⟨rfl, rfl, axu_row (by omega), rfl⟩, Nat.le_refl _, A, w, e1 (by assumption)⟩)
    | (have es : s = 0 := by first | assumption | omega
       rw [if_pos es] at hW
       rw [hW, es]
       exact ⟨rfl, fun q hq => ⟨rfl, rfl, axu_row (by omega), axu_row (by omega)⟩, Nat.le_refl _, A, w, e2⟩)
  · refine x_aload_n (pc := 12) hC dX11_stopOrFinish_12 rfl ?_
    refine x_getO (pc := 13) hC gf_X11_24 dX11_stopOrFinish_13 (fx_ta hx) (fx_tp hx).1 ?_
    refine x_aload_n (pc := 16) hC dX11_stopOrFinish_16 rfl ?_
    refine x_getO (pc := 17) hC gf_X11_64 dX11_stopOrFinish_17 (fx_ta hx) (fx_cu hx).1 ?_
    refine x_getI (pc := 20) hC gf_X11_396 dX11_stopOrFinish_20 (fx_cu hx).2.1.1 ?_
    rw [kb8]
    refine x_aload_n (pc := 23) hC dX11_stopOrFinish_23 rfl ?_
    refine x_getO (pc := 24) hC gf_X11_64 dX11_stopOrFinish_24 (fx_ta hx) (fx_cu hx).1 ?_
    refine x_getO (pc := 27) hC gf_X11_279 dX11_stopOrFinish_27 (fx_cu hx).2.1.1 ktop ?_
    refine x_aast (pc := 30) hC axEl_15 dX11_stopOrFinish_30 (fx_tp hx).2.1 (by omega) (by rw [(fx_tp hx).2.2]; omega) (fun v hv => by cases hv; exact axTakes_5 kt) ?_
    refine x_iload_n (pc := 31) hC dX11_stopOrFinish_31 rfl ?_
    refine x_iret (pc := 32) hC rfl dX11_stopOrFinish_32 ?_
    first
    | (rw [if_neg (by assumption)] at hW
       rw [hW]
       exact ⟨rfl, fun q hq => ⟨rfl, rfl, axu_row (by omega), rfl⟩, Nat.le_refl _, A, w, e1 (by assumption)⟩)
    | (have es : s = 0 := by first | assumption | omega
       rw [if_pos es] at hW
       rw [hW, es]
       exact ⟨rfl, fun q hq => ⟨rfl, rfl, axu_row (by omega), axu_row (by omega)⟩, Nat.le_refl _, A, w, e2⟩)

set_option maxHeartbeats 4000000 in
set_option maxRecDepth 100000 in
theorem c_go {G : ax_G} {T : Nat → Nat} {N : Nat → Int} {I : Nat → Int → Int} {R : Nat → Int → Option Nat} {z a o : Nat} {σ : Nat → Int → Int} {A w : Int → Nat} (h : RelA G T N I R z a o σ A w) (hS : rpS σ o) (hc : σ o 40 ≠ 0 → cI (ax_u σ o 40 0) o ∧ ¬ thP σ o (goX σ o) (σ o 41) (σ o 42)) : axM G YX11_go 8 [vR a] T N I R z 48 528 (rPX G T N I R z a o (vI (goR σ o).1) (goR σ o).2) := by
  refine ax_enter (by decide) (Nat.le_of_ble_eq_true rfl) (ax_cat rfl) (fun f hC => ?_)
  show axX G f 48 528 _ 0 [vR a] [] T N I R z 48 528
  have hx := rl_fx h
  have b1 := fx_b1 hx
  have h8 := rl_st h
  have hs2 := hS.1
  have hu := c_isUnderWay (G := G) (I := I) hx (by rw [h8]; constructor <;> omega)
  by_cases h40 : σ o 40 = 0
  · have e0 : goR σ o = (-3, σ) := by unfold goR; rw [if_pos h40]
    rw [e0]
    rw [bI_f (show ¬ (I (a + 183) 8 ≠ 0) by rw [h8, h40]; decide)] at hu
    refine x_aload_n (pc := 0) hC dX11_go_0 rfl ?_
    refine x_mV (pc := 1) hC cv_X11_89 dX11_go_1 hu (fx_ta hx) rfl (by decide) rfl rfl (Nat.le_of_ble_eq_true rfl) ?_
    dsimp only [Option.toList, List.cons_append, List.nil_append]
    refine x_if_eq (pc := 4) hC 22 dX11_go_4 (by decide) (by decide) (fun _ => ?_) (fun h => absurd rfl h)
    refine x_bipush (pc := 22) hC dX11_go_22 (by decide) ?_
    refine x_iret (pc := 24) hC rfl dX11_go_24 ?_
    exact rl_p0 h
  · have e0 : goR σ o = goF o (σ o 46 - σ o 47).toNat 0 (ax_u σ o 40 0) := by unfold goR; rw [if_neg h40]
    rw [bI_t (show I (a + 183) 8 ≠ 0 by rw [h8]; exact h40)] at hu
    obtain ⟨hcc, hnt⟩ := hc h40
    have hm : Mid G T N I R z a o (ax_u σ o 40 0) A w (σ o 40) := ⟨by rw [axu_uu, axu_id rfl]; exact h, e_rpK.mpr (rl_rp h h40)⟩
    have hth0 : thP (ax_u σ o 40 0) o (goX (ax_u σ o 40 0) o) (ax_u σ o 40 0 o 41) (ax_u σ o 40 0 o 42) ↔ thP σ o (goX σ o) (σ o 41) (σ o 42) := by
      have eX : goX (ax_u σ o 40 0) o = goX σ o := by unfold goX; rw [e_row (by omega), e_fld (by decide)]
      have eL : thL (ax_u σ o 40 0) o (σ o 41) (σ o 42) = thL σ o (σ o 41) (σ o 42) := by unfold thL; rw [e_row (by omega), e_row (by omega), e_fld (by decide)]
      rw [eX, e_fld (by decide), e_fld (by decide)]
      unfold thP
      rw [eL, e_row (by omega)]
      constructor
      · rintro ⟨y1, y, y2, y3⟩; rw [e_chgC, e_chgC] at y3; exact ⟨y1, y, y2, y3⟩
      · rintro ⟨y1, y, y2, y3⟩; refine ⟨y1, y, y2, ?_⟩; rw [e_chgC, e_chgC]; exact y3
    have hcar := c_carry (fl := 0) (W := goR σ o) hm hcc (fun _ _ h9 => hnt (hth0.mp h9)) (by rw [e0, e_fld (by decide), e_fld (by decide)])
    refine x_aload_n (pc := 0) hC dX11_go_0 rfl ?_
    refine x_mV (pc := 1) hC cv_X11_89 dX11_go_1 hu (fx_ta hx) rfl (by decide) rfl rfl (Nat.le_of_ble_eq_true rfl) ?_
    dsimp only [Option.toList, List.cons_append, List.nil_append]
    refine x_if_eq (pc := 4) hC 22 dX11_go_4 (by decide) (by decide) (fun h => absurd h (by decide)) (fun _ => ?_)
    refine x_aload_n (pc := 7) hC dX11_go_7 rfl ?_
    refine x_aload_n (pc := 8) hC dX11_go_8 rfl ?_
    refine x_aload_n (pc := 9) hC dX11_go_9 rfl ?_
    refine x_getO (pc := 10) hC gf_X11_64 dX11_go_10 (fx_ta hx) (fx_cu hx).1 ?_
    refine x_callV (pc := 13) hC cv_X11_253 dX11_go_13 hcar (fx_ta hx) rfl (by decide) (by omega) (by omega) rfl rfl (Nat.le_of_ble_eq_true rfl) (fun _ _ _ _ _ _ hq => ?_)
    obtain ⟨s, σ2, A2, w2, rfl, f2, z2, h2, cc2, hW2, hs9, -⟩ := hq
    dsimp only [Option.toList, List.cons_append, List.nil_append]
    have hx2 := rl_fx h2.1
    refine x_callV (pc := 16) hC cv_X11_257 dX11_go_16 (c_stopOr h2 cc2 hW2 hs9) (fx_ta hx2) rfl (by decide) (by omega) (by omega) rfl rfl (Nat.le_of_ble_eq_true rfl) (fun _ _ _ _ _ _ hq => ?_)
    obtain ⟨rfl, f3, z3, A3, w3, h3⟩ := hq
    dsimp only [Option.toList, List.cons_append, List.nil_append]
    refine x_goto (pc := 19) hC 24 dX11_go_19 (by decide) ?_
    refine x_iret (pc := 24) hC rfl dX11_go_24 ?_
    exact ⟨rfl, f2.tr f3, by omega, A3, w3, h3⟩

set_option maxHeartbeats 4000000 in
set_option maxRecDepth 100000 in
theorem c_skip {G : ax_G} {T : Nat → Nat} {N : Nat → Int} {I : Nat → Int → Int} {R : Nat → Int → Option Nat} {z a o : Nat} {σ : Nat → Int → Int} {A w : Int → Nat} (h : RelA G T N I R z a o σ A w) (hS : rpS σ o) (hc : σ o 40 ≠ 0 → cI (ax_u σ o 40 0) o ∧ ¬ thP σ o (goX σ o) (σ o 41) (σ o 42)) : axM G YX11_skip 8 [vR a] T N I R z 48 528 (rPX G T N I R z a o (vI (skR σ o).1) (skR σ o).2) := by
  refine ax_enter (by decide) (Nat.le_of_ble_eq_true rfl) (ax_cat rfl) (fun f hC => ?_)
  show axX G f 48 528 _ 0 [vR a] [] T N I R z 48 528
  have hx := rl_fx h
  have b1 := fx_b1 hx
  have h8 := rl_st h
  have hs2 := hS.1
  have hu := c_isUnderWay (G := G) (I := I) hx (by rw [h8]; constructor <;> omega)
  by_cases h40 : σ o 40 = 0
  · have e0 : skR σ o = (-3, σ) := by unfold skR; rw [if_pos h40]
    rw [e0]
    rw [bI_f (show ¬ (I (a + 183) 8 ≠ 0) by rw [h8, h40]; decide)] at hu
    refine x_aload_n (pc := 0) hC dX11_skip_0 rfl ?_
    refine x_mV (pc := 1) hC cv_X11_89 dX11_skip_1 hu (fx_ta hx) rfl (by decide) rfl rfl (Nat.le_of_ble_eq_true rfl) ?_
    dsimp only [Option.toList, List.cons_append, List.nil_append]
    refine x_if_ne (pc := 4) hC 10 dX11_skip_4 (by decide) (by decide) (fun h => absurd rfl h) (fun _ => ?_)
    refine x_bipush (pc := 7) hC dX11_skip_7 (by decide) ?_
    refine x_iret (pc := 9) hC rfl dX11_skip_9 ?_
    exact rl_p0 h
  · have e0 : skR σ o = goF o (σ o 46 - (σ o 47 + 1)).toNat 1 (ax_u (goL σ o) o 40 0) := by unfold skR; rw [if_neg h40]
    rw [bI_t (show I (a + 183) 8 ≠ 0 by rw [h8]; exact h40)] at hu
    obtain ⟨hcc, hnt⟩ := hc h40
    have hm : Mid G T N I R z a o (ax_u σ o 40 0) A w (σ o 40) := ⟨by rw [axu_uu, axu_id rfl]; exact h, e_rpK.mpr (rl_rp h h40)⟩
    have hth0 : thP (ax_u σ o 40 0) o (goX (ax_u σ o 40 0) o) (ax_u σ o 40 0 o 41) (ax_u σ o 40 0 o 42) ↔ thP σ o (goX σ o) (σ o 41) (σ o 42) := by
      have eX : goX (ax_u σ o 40 0) o = goX σ o := by unfold goX; rw [e_row (by omega), e_fld (by decide)]
      have eL : thL (ax_u σ o 40 0) o (σ o 41) (σ o 42) = thL σ o (σ o 41) (σ o 42) := by unfold thL; rw [e_row (by omega), e_row (by omega), e_fld (by decide)]
      rw [eX, e_fld (by decide), e_fld (by decide)]
      unfold thP
      rw [eL, e_row (by omega)]
      constructor
      · rintro ⟨y1, y, y2, y3⟩; rw [e_chgC, e_chgC] at y3; exact ⟨y1, y, y2, y3⟩
      · rintro ⟨y1, y, y2, y3⟩; refine ⟨y1, y, y2, ?_⟩; rw [e_chgC, e_chgC]; exact y3
    have h47 := (hS.2 h40).2.1
    have h1 := (hm.fig (j := 1) (v := σ (o + 29) 1 + 1) (by omega)).at
    have eL : nxt (ax_u (ax_u σ o 40 0) (o + 29) 1 (σ (o + 29) 1 + 1)) o = ax_u (goL σ o) o 40 0 := by
      unfold goL nxt
      funext q j
      by_cases hq : q = o
      · rw [hq]
        by_cases hj : j = 40
        · rw [hj, axu_s, axu_j (by decide), axu_a (show o ≠ o + 29 by omega), axu_s]
        · rw [show ax_u (ax_u (ax_u σ (o + 29) 1 (σ (o + 29) 1 + 1)) o 47 (ax_u σ (o + 29) 1 (σ (o + 29) 1 + 1) o 47 + 1)) o 40 0 o j = ax_u (ax_u σ (o + 29) 1 (σ (o + 29) 1 + 1)) o 47 (ax_u σ (o + 29) 1 (σ (o + 29) 1 + 1) o 47 + 1) o j from axu_j hj]
          by_cases hj2 : j = 47
          · rw [hj2, axu_s, axu_s, axu_a (show o ≠ o + 29 by omega), axu_a (show o ≠ o + 29 by omega), axu_j (show (47 : Int) ≠ 40 by decide)]
          · rw [axu_j hj2, axu_j hj2, axu_a (show o ≠ o + 29 by omega), axu_a (show o ≠ o + 29 by omega), axu_j hj]
      · rw [axu_a hq, axu_a hq, axu_a hq]
        by_cases hq2 : q = o + 29 ∧ j = 1
        · rw [hq2.1, hq2.2, axu_s, axu_s]
        · unfold ax_u
          rw [if_neg hq2, if_neg hq2, if_neg (fun h9 => hq h9.1)]
    rw [eL] at h1
    have cL := cI_L hcc (by rw [e_fld (by decide), e_fld (by decide)]; exact h47)
    have eL2 : goL (ax_u σ o 40 0) o = ax_u (goL σ o) o 40 0 := by
      rw [← eL]; unfold goL; rw [e_row (show o + 29 ≠ o by omega)]
    rw [eL2] at cL
    have hfg1 : I (a + 184 + 2) 1 = σ (o + 29) 1 := rl_fg h 1 (by omega) (by omega)
    have e46 : ax_u (goL σ o) o 40 0 o 46 = σ o 46 ∧ ax_u (goL σ o) o 40 0 o 47 = σ o 47 + 1 := by
      rw [e_fld (by decide), e_fld (by decide)]
      unfold goL nxt
      rw [axu_j (by decide), axu_s, axu_a (by omega), axu_a (by omega)]
      exact ⟨rfl, rfl⟩
    have hcar := c_carry (fl := 1) (W := skR σ o) h1 cL (fun h9 => absurd h9 (by decide)) (by rw [e0, e46.1, e46.2])
    refine x_aload_n (pc := 0) hC dX11_skip_0 rfl ?_
    refine x_mV (pc := 1) hC cv_X11_89 dX11_skip_1 hu (fx_ta hx) rfl (by decide) rfl rfl (Nat.le_of_ble_eq_true rfl) ?_
    dsimp only [Option.toList, List.cons_append, List.nil_append]
    refine x_if_ne (pc := 4) hC 10 dX11_skip_4 (by decide) (by decide) (fun _ => ?_) (fun h => absurd h (by decide))
    refine x_aload_n (pc := 10) hC dX11_skip_10 rfl ?_
    refine x_getO (pc := 11) hC gf_X11_64 dX11_skip_11 (fx_ta hx) (fx_cu hx).1 ?_
    refine x_getO (pc := 14) hC gf_X11_210 dX11_skip_14 (fx_cu hx).2.1.1 (fx_cu hx).2.1.2.2.2.1.1 ?_
    refine x_iconst (pc := 17) hC dX11_skip_17 ?_
    refine x_dup2 (pc := 18) hC dX11_skip_18 rfl rfl ?_
    refine x_iald (pc := 19) hC dX11_skip_19 (fx_cu hx).2.1.2.2.2.1.2.1 (by omega) (by rw [(fx_cu hx).2.1.2.2.2.1.2.2]; omega) ?_
    refine x_iconst (pc := 20) hC dX11_skip_20 ?_
    rw [hfg1]
    refine x_iadd (pc := 21) hC dX11_skip_21 ?_
    refine x_iast (pc := 22) hC dX11_skip_22 (fx_cu hx).2.1.2.2.2.1.2.1 (by omega) (by rw [(fx_cu hx).2.1.2.2.2.1.2.2]; omega) ?_
    refine x_aload_n (pc := 23) hC dX11_skip_23 rfl ?_
    refine x_getO (pc := 24) hC gf_X11_64 dX11_skip_24 (fx_ta hx) (fx_cu hx).1 ?_
    refine x_dup (pc := 27) hC dX11_skip_27 rfl ?_
    refine x_getI (pc := 28) hC gf_X11_260 dX11_skip_28 (fx_cu hx).2.1.1 ?_
    refine x_iconst (pc := 31) hC dX11_skip_31 ?_
    refine x_isub (pc := 32) hC dX11_skip_32 ?_
    refine x_putI (pc := 33) hC pf_X11_260 dX11_skip_33 (fx_cu hx).2.1.1 (by decide) ?_
    refine x_aload_n (pc := 36) hC dX11_skip_36 rfl ?_
    refine x_aload_n (pc := 37) hC dX11_skip_37 rfl ?_
    refine x_aload_n (pc := 38) hC dX11_skip_38 rfl ?_
    refine x_getO (pc := 39) hC gf_X11_64 dX11_skip_39 (fx_ta hx) (fx_cu hx).1 ?_
    refine x_callV (pc := 42) hC cv_X11_253 dX11_skip_42 hcar (fx_ta hx) rfl (by decide) (by omega) (by omega) rfl rfl (Nat.le_of_ble_eq_true rfl) (fun _ _ _ _ _ _ hq => ?_)
    obtain ⟨s, σ2, A2, w2, rfl, f2, z2, h2, cc2, hW2, hs9, -⟩ := hq
    dsimp only [Option.toList, List.cons_append, List.nil_append]
    have hx2 := rl_fx h2.1
    refine x_callV (pc := 45) hC cv_X11_257 dX11_skip_45 (c_stopOr h2 cc2 hW2 hs9) (fx_ta hx2) rfl (by decide) (by omega) (by omega) rfl rfl (Nat.le_of_ble_eq_true rfl) (fun _ _ _ _ _ _ hq => ?_)
    obtain ⟨rfl, f3, z3, A3, w3, h3⟩ := hq
    dsimp only [Option.toList, List.cons_append, List.nil_append]
    refine x_iret (pc := 48) hC rfl dX11_skip_48 ?_
    exact ⟨rfl, (fro.tr (fun q hq => ⟨rfl, rfl, by rw [axu_row (by omega), axu_row (by omega)], rfl⟩) f2).tr f3, by omega, A3, w3, h3⟩

