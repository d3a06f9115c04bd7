/-! THE CLASS: abort -/
/-- the kept resolutions are as resolutions are -/
def miK (σ : Nat → Int → Int) (o : Nat) : Prop := (0 ≤ σ o 35 ∧ σ o 35 ≤ 8) ∧ (∀ j, 0 ≤ σ (o + 24) j ∧ σ (o + 24) j < 100) ∧ (∀ k, 0 ≤ σ (o + 25) k ∧ σ (o + 25) k ≤ 51) ∧ (∀ j, 0 ≤ σ (o + 26) j ∧ σ (o + 26) j < 200) ∧ (∀ k, 0 ≤ σ (o + 27) k ∧ σ (o + 27) k ≤ 6) ∧ ∀ k : Nat, (k : Int) < σ o 35 → ∀ p, (kpL σ o)[k]? = some p → rwOk p.1 p.2
theorem kp1_x {Y : Nat → Int → Int} {o : Nat} {X : Nat → Int → Int} (hX : X = kpI Y o 1) : X o 30 = Y o 35 ∧ X o 35 = Y o 35 ∧ (∀ j, j ≠ 30 → j ≠ 35 → X o j = Y o j) ∧ (∀ j, 0 ≤ j → j < 408 → X (o + 20) j = Y (o + 24) j ∧ X (o + 24) j = Y (o + 24) j) ∧ (∀ j, 0 ≤ j → j < 8 → X (o + 21) j = Y (o + 25) j ∧ X (o + 25) j = Y (o + 25) j) ∧ (∀ j, 0 ≤ j → j < 48 → X (o + 22) j = Y (o + 26) j ∧ X (o + 26) j = Y (o + 26) j) ∧ (∀ j, 0 ≤ j → j < 8 → X (o + 23) j = Y (o + 27) j ∧ X (o + 27) j = Y (o + 27) j) ∧ (∀ j, 0 ≤ j → j < 4 → X (o + 29) j = Y (o + 30) j) ∧ ∀ q, q ≠ o → (q < o + 20 ∨ q = o + 28 ∨ o + 30 < q) → X q = Y q := by
  have e1 : ∀ (q : Nat) j, q ≠ o + 29 → q ≠ o + 30 → q ≠ o → X q j = kpF Y o 1 408 48 8 q j := fun q j h1 h2 h3 => by
    rw [hX]; unfold kpI
    rw [axf_a h2, axf_a h1, axu_a h3, axu_a h3]
  have hb : ¬ (1 : Int) = 0 := by decide
  have g : ∀ a c j, kpG Y 1 a c j = Y c j := fun a c j => by unfold kpG; rw [if_neg hb]
  refine ⟨?_, ?_, fun j h1 h2 => ?_, fun j h1 h2 => ⟨?_, ?_⟩, fun j h1 h2 => ⟨?_, ?_⟩, fun j h1 h2 => ⟨?_, ?_⟩, fun j h1 h2 => ⟨?_, ?_⟩, fun j h1 h2 => ?_, fun q h1 h2 => ?_⟩
  · rw [hX]; unfold kpI; rw [axf_a (by omega), axf_a (by omega), axu_j (by decide), axu_s, if_neg hb]
  · rw [hX]; unfold kpI; rw [axf_a (by omega), axf_a (by omega), axu_s, if_neg hb]
  · rw [hX]; unfold kpI kpF; rw [axf_a (by omega), axf_a (by omega), axu_j h2, axu_j h1, axf_a (by omega), axf_a (by omega), axf_a (by omega), axf_a (by omega), axf_a (by omega), axf_a (by omega), axf_a (by omega), axf_a (by omega)]
  · rw [e1 _ _ (by omega) (by omega) (by omega)]; unfold kpF; rw [axf_a (by omega), axf_a (by omega), axf_a (by omega), axf_a (by omega), axf_a (by omega), axf_a (by omega), axf_a (by omega), axf_in (by omega) (by omega), g]
  · rw [e1 _ _ (by omega) (by omega) (by omega)]; unfold kpF; rw [axf_a (by omega), axf_a (by omega), axf_a (by omega), axf_a (by omega), axf_a (by omega), axf_a (by omega), axf_in (by omega) (by omega), g]
  · rw [e1 _ _ (by omega) (by omega) (by omega)]; unfold kpF; rw [axf_a (by omega), axf_a (by omega), axf_a (by omega), axf_in (by omega) (by omega), g]
  · rw [e1 _ _ (by omega) (by omega) (by omega)]; unfold kpF; rw [axf_a (by omega), axf_a (by omega), axf_in (by omega) (by omega), g]
  · rw [e1 _ _ (by omega) (by omega) (by omega)]; unfold kpF; rw [axf_a (by omega), axf_a (by omega), axf_a (by omega), axf_a (by omega), axf_a (by omega), axf_in (by omega) (by omega), g]
  · rw [e1 _ _ (by omega) (by omega) (by omega)]; unfold kpF; rw [axf_a (by omega), axf_a (by omega), axf_a (by omega), axf_a (by omega), axf_in (by omega) (by omega), g]
  · rw [e1 _ _ (by omega) (by omega) (by omega)]; unfold kpF; rw [axf_a (by omega), axf_in (by omega) (by omega), g]
  · rw [e1 _ _ (by omega) (by omega) (by omega)]; unfold kpF; rw [axf_in (by omega) (by omega), g]
  · rw [hX]; unfold kpI; rw [axf_a (by omega), axf_in (by omega) (by omega), g]
  · funext j
    rw [e1 _ _ (by omega) (by omega) h1]; unfold kpF
    rw [axf_a (by omega), axf_a (by omega), axf_a (by omega), axf_a (by omega), axf_a (by omega), axf_a (by omega), axf_a (by omega), axf_a (by omega)]
theorem kp1_rs {σ X : Nat → Int → Int} {o : Nat} (h : miK σ o) (e30 : X o 30 = σ o 35) (e20 : ∀ j, 0 ≤ j → j < 408 → X (o + 20) j = σ (o + 24) j) (e21 : ∀ j, 0 ≤ j → j < 8 → X (o + 21) j = σ (o + 25) j) (e22 : ∀ j, 0 ≤ j → j < 48 → X (o + 22) j = σ (o + 26) j) (e23 : ∀ j, 0 ≤ j → j < 8 → X (o + 23) j = σ (o + 27) j) : rsL X o = kpL σ o := by
  unfold rsL kpL
  rw [e30]
  apply List.map_congr_left
  intro k hk
  have h1 := h.1
  have hk2 : (k : Int) < 8 := by have := List.mem_range.mp hk; omega
  have h3 := h.2.2.1 k
  have h5 := h.2.2.2.2.1 k
  unfold rsK rsW
  rw [e21 k (by omega) hk2, e23 k (by omega) hk2, seg_congr (g := σ (o + 24)) (fun i a1 a2 => e20 i (by omega) (by omega)), seg_congr (f := X (o + 22)) (g := σ (o + 26)) (fun i a1 a2 => e22 i (by omega) (by omega))]

set_option maxHeartbeats 4000000 in
set_option maxRecDepth 100000 in
theorem c_abort {G : ax_G} {T : Nat → Nat} {N : Nat → Int} {I : Nat → Int → Int} {R : Nat → Int → Option Nat} {z a o : Nat} {σ : Nat → Int → Int} {A w : Int → Nat} (h : RelA G T N I R z a o σ A w) (hI : miC σ o) (hMS : miS σ o) (hS : rpS σ o) (hK : miK σ o) : axM G YX11_abort 2 [vR a] T N I R z 0 0 (rPX G T N I R z a o (vI (abR σ o).1) (abR σ o).2) := by
  refine ax_enter (by decide) (Nat.le_of_ble_eq_true rfl) (ax_cat rfl) (fun f hC => ?_)
  show axX G f 0 0 _ 0 [vR a, vU] [] T N I R z 0 0
  have hx := rl_fx h
  have b0 := fx_b0 hx
  have b1 := fx_b1 hx
  have hn := rl_n h
  have hC1 := hI.1
  have h8 := rl_st h
  have hs2 := hS.1
  have hu := c_isUnderWay (G := G) (I := I) hx (by rw [h8]; constructor <;> omega)
  unfold abR
  by_cases h40 : σ o 40 = 0
  · rw [if_pos h40]
    rw [bI_f (show ¬ (I (a + 183) 8 ≠ 0) by rw [h8, h40]; decide)] at hu
    refine x_aload_n (pc := 0) hC dX11_abort_0 rfl ?_
    refine x_mV (pc := 1) hC cv_X11_89 dX11_abort_1 hu (fx_ta hx) rfl (by decide) rfl rfl (Nat.le_of_ble_eq_true rfl) ?_
    dsimp only [Option.toList, List.cons_append, List.nil_append]
    refine x_if_ne (pc := 4) hC 10 dX11_abort_4 (by decide) (by decide) (fun h => absurd rfl h) (fun _ => ?_)
    refine x_bipush (pc := 7) hC dX11_abort_7 (by decide) ?_
    refine x_iret (pc := 9) hC rfl dX11_abort_9 ?_
    exact rl_p0 h
  · rw [if_neg h40]
    rw [bI_t (show I (a + 183) 8 ≠ 0 by rw [h8]; exact h40)] at hu
    obtain ⟨r1, r2, r3, r4⟩ := hS.2 h40
    have r44 := r1.2.2.2.2.2
    obtain ⟨⟨kk1, kk5, kk7, kk10⟩, kk2, kk3, kk4, kk6, kk13, kk8, kkR⟩ := rl_rp h h40
    refine x_aload_n (pc := 0) hC dX11_abort_0 rfl ?_
    refine x_mV (pc := 1) hC cv_X11_89 dX11_abort_1 hu (fx_ta hx) rfl (by decide) rfl rfl (Nat.le_of_ble_eq_true rfl) ?_
    dsimp only [Option.toList, List.cons_append, List.nil_append]
    refine x_if_ne (pc := 4) hC 10 dX11_abort_4 (by decide) (by decide) (fun _ => ?_) (fun h => absurd h (by decide))
    refine x_aload_n (pc := 10) hC dX11_abort_10 rfl ?_
    refine x_getI (pc := 11) hC gf_X11_105 dX11_abort_11 (fx_ta hx) ?_
    refine x_istore_n (pc := 14) hC dX11_abort_14 (Nat.le_of_ble_eq_true rfl) ?_
    dsimp only [List.set]
    refine x_aload_n (pc := 15) hC dX11_abort_15 rfl ?_
    refine x_aload_n (pc := 16) hC dX11_abort_16 rfl ?_
    refine x_getO (pc := 17) hC gf_X11_64 dX11_abort_17 (fx_ta hx) (fx_cu hx).1 ?_
    refine x_getI (pc := 20) hC gf_X11_263 dX11_abort_20 (fx_cu hx).2.1.1 ?_
    rw [kk10]
    refine x_rV (pc := 23) hC cv_X11_203 dX11_abort_23 (c_drop h (by omega) (f := σ o 44) (by omega)) (fx_ta hx) rfl (by decide) rfl rfl (Nat.le_of_ble_eq_true rfl) ?_
    rintro v9 I5 S5 ⟨rfl, ⟨J, dJ, rfl⟩, p1, p2⟩
    dsimp only [Option.toList, List.nil_append]
    have hx1 : fxS G T N S5 z a o := fx_up hx (fun _ _ => ⟨rfl, rfl⟩) (p1 a (by omega)) (p1 _ (by omega)) (fun k _ => by rw [p1 (a + 5) (by omega)]) (fun q a1 a2 => p1 q (by omega)) (fun k _ _ => by rw [p1 (a + 183) (by omega)]) (fun k _ _ => by rw [p1 (a + 189) (by omega)]) (Nat.le_refl _) (fx_tz hx)
    have r75 : r7 T S5 (a + 188) := fun j v a1 a2 hv => by rw [p1 (a + 188) (by omega)] at hv; exact (rl_r7 h).2 j v a1 a2 hv
    refine x_aload_n (pc := 26) hC dX11_abort_26 rfl ?_
    refine x_getO (pc := 27) hC gf_X11_64 dX11_abort_27 (fx_ta hx) (fx_cu hx1).1 ?_
    refine x_aload_n (pc := 30) hC dX11_abort_30 rfl ?_
    refine x_getO (pc := 31) hC gf_X11_36 dX11_abort_31 (fx_ta hx) (fx_mg hx1).1 ?_
    refine x_rV (pc := 34) hC cv_X11_266 dX11_abort_34 (c_restore (fx_cu hx1).2.1 (fx_mg hx1).2 r75 (by omega) (by omega)) (fx_cu hx1).2.1.1 rfl (by decide) rfl rfl (Nat.le_of_ble_eq_true rfl) ?_
    rintro v9 I6 S6 ⟨rfl, ⟨q1, q2, q3, q4⟩, q8, q9⟩
    dsimp only [Option.toList, List.nil_append]
    refine x_aload_n (pc := 37) hC dX11_abort_37 rfl ?_
    refine x_getO (pc := 38) hC gf_X11_64 dX11_abort_38 (fx_ta hx) (Eq.trans (congrFun (q8 a (by omega)) 8) (fx_cu hx1).1) ?_
    refine x_iconst (pc := 41) hC dX11_abort_41 ?_
    refine x_putI (pc := 42) hC pf_X11_270 dX11_abort_42 (fx_cu hx1).2.1.1 (by decide) ?_
    refine x_iload_n (pc := 45) hC dX11_abort_45 rfl ?_
    refine x_aload_n (pc := 46) hC dX11_abort_46 rfl ?_
    refine x_getI (pc := 47) hC gf_X11_105 dX11_abort_47 (fx_ta hx) ?_
    rw [axu_a (by omega), q3 a (by omega) (by omega), axu_s, hn]
    refine x_isub (pc := 50) hC dX11_abort_50 ?_
    refine x_iret (pc := 51) hC rfl dX11_abort_51 ?_
    obtain ⟨X, hX⟩ : ∃ X, X = kpI (ax_u (ax_u σ o 2 (σ o 44)) o 40 0) o 1 := ⟨_, rfl⟩
    rw [← hX]
    obtain ⟨x30, x35, xo, x20, x21, x22, x23, x29, xq⟩ := kp1_x hX
    have yr : ∀ q, q ≠ o → ax_u (ax_u σ o 2 (σ o 44)) o 40 0 q = σ q := fun q hq => by rw [axu_row hq, axu_row hq]
    have y35 : ax_u (ax_u σ o 2 (σ o 44)) o 40 0 o 35 = σ o 35 := by rw [axu_j (by decide), axu_j (by decide)]
    have ers : rsL X o = kpL σ o := kp1_rs hK (by rw [x30, y35]) (fun j j0 j1 => by rw [(x20 j j0 j1).1, yr _ (by omega)]) (fun j j0 j1 => by rw [(x21 j j0 j1).1, yr _ (by omega)]) (fun j j0 j1 => by rw [(x22 j j0 j1).1, yr _ (by omega)]) (fun j j0 j1 => by rw [(x23 j j0 j1).1, yr _ (by omega)])
    have j13 : ax_u J a 2 (σ o 44) (a + 183) 13 = (kpL σ o).length := by rw [axu_a (by omega), drI_j dJ _ (by decide)]; exact kk13
    refine ⟨rfl, fun q hq => ⟨rfl, rfl, ?_, ?_⟩, Nat.le_refl _, A, w, rl_ab h hMS (f := σ o 44) (by omega) dJ (fun _ _ _ => rfl) (fun q e1 e2 e3 e4 => by rw [axu_row e3, q3 q e2 e4, axu_row e1]) (fun j hj => by rw [axu_a (by omega), q3 a (by omega) (by omega), axu_j hj]; exact congrFun (dJ.2 a (fun c c0 c1 e => by have := (rl_cc h c (by omega) c1).2.2.2.2.2.2.1; omega)) j) (by rw [axu_a (by omega), q3 a (by omega) (by omega), axu_s]) (by rw [axu_s]) (fun q e1 e2 => (q8 q e2).trans (p1 q e1)) (fun j hj => by rw [q8 (a + 2) (by omega)]; exact p2 j hj) (by rw [xo 2 (by decide) (by decide), axu_j (by decide), axu_s]) (by rw [xo 40 (by decide) (by decide), axu_s]) ⟨by rw [xo 0 (by decide) (by decide), axu_j (by decide), axu_j (by decide)], by rw [xo 1 (by decide) (by decide), axu_j (by decide), axu_j (by decide)]⟩ (fun q e1 e2 e3 => by rw [xq q e1 (by omega), yr q e1]) (fun d d0 d1 => by rw [xq (o + 7) (by omega) (by omega), yr _ (by omega)]; exact rl_tp h d d0 d1) ⟨?_, by rw [ers]; exact kk8, fun j p hp => ?_⟩ (fun j v a1 a2 hv => ?_) (fun j j0 j1 => ?_)⟩
    · have hqA : ∀ c, σ o 44 ≤ c → c < σ o 2 → q ≠ A c := fun c c0 c1 e => by have := (rl_cc h c (by omega) c1).2.2.2.2.2.2.1; omega
      rw [axu_row (by omega), q3 q (by omega) (by omega), axu_row (by omega)]
      exact dJ.2 q hqA
    · rw [q8 q (by omega), p1 q (by omega)]
    · rw [axu_a (by omega), q1, j13, ers]
    · rw [ers] at hp
      have hj8 : (j : Int) < 8 := by have := (List.getElem?_eq_some_iff.mp hp).1; omega
      obtain ⟨q, y1, y2⟩ := kkR j p hp
      refine ⟨q, ?_, y2⟩
      have := q9 j (by omega) hj8
      rw [p1 (a + 184 + 4) (by omega)] at this
      exact this.trans y1
    · have := q9 j a1 a2
      have hv2 := this.symm.trans hv
      exact r75 j v a1 a2 hv2
    · rw [axu_a (by omega)]
      have := q4 j j0 j1
      rw [axu_a (by omega)] at this
      refine this.trans ?_
      have e187 : ∀ c, σ o 44 ≤ c → c < σ o 2 → a + 184 + 3 ≠ A c := fun c c0 c1 e => by have := (rl_cc h c (by omega) c1).2.2.2.2.2.2.1; omega
      rw [dJ.2 _ e187, x29 j j0 j1, yr _ (by omega)]
      exact kk6 j j0 j1

