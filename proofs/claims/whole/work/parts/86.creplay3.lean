/-! THE CLASS: replay -/
theorem kp0_x {Y : Nat → Int → Int} {o : Nat} {X : Nat → Int → Int} (hX : X = kpI Y o 0) : X o 35 = Y o 30 ∧ (∀ j, j ≠ 35 → X o j = Y o j) ∧ (∀ j, 0 ≤ j → j < 408 → X (o + 24) j = Y (o + 20) j) ∧ (∀ j, 0 ≤ j → j < 8 → X (o + 25) j = Y (o + 21) j) ∧ (∀ j, 0 ≤ j → j < 48 → X (o + 26) j = Y (o + 22) j) ∧ (∀ j, 0 ≤ j → j < 8 → X (o + 27) j = Y (o + 23) j) ∧ (∀ j, 0 ≤ j → j < 4 → X (o + 30) j = Y (o + 29) j) ∧ ∀ q, q ≠ o → (q < o + 24 ∨ q = o + 28 ∨ q = o + 29 ∨ o + 30 < q) → X q = Y q := by
  have e1 : ∀ (q : Nat) j, q ≠ o + 29 → q ≠ o + 30 → q ≠ o → X q j = kpF Y o 0 408 48 8 q j := fun q j h1 h2 h3 => by
    rw [hX]; unfold kpI
    rw [axf_a h2, axf_a h1, axu_a h3, axu_a h3]
  have g : ∀ a c j, kpG Y 0 a c j = Y a j := fun a c j => by unfold kpG; rw [if_pos rfl]
  have sf : ∀ (Z : Nat → Int → Int) (x c : Nat) (n : Int) j, Z x j = Y x j → ax_f Z x 0 n (kpG Y 0 x c) x j = Y x j := fun Z x c n j hz => by
    by_cases hj : 0 ≤ j ∧ j < 0 + n
    · rw [axf_in hj.1 hj.2, g]
    · rw [axf_out (by omega)]; exact hz
  refine ⟨?_, fun j h1 => ?_, fun j h1 h2 => ?_, fun j h1 h2 => ?_, fun j h1 h2 => ?_, fun j h1 h2 => ?_, fun j h1 h2 => ?_, fun q h1 h2 => ?_⟩
  · rw [hX]; unfold kpI; rw [axf_a (by omega), axf_a (by omega), axu_s, if_pos rfl]
  · rw [hX]; unfold kpI; rw [axf_a (by omega), axf_a (by omega), axu_j h1]
    by_cases h3 : j = 30
    · rw [h3, axu_s, if_pos rfl]
    · rw [axu_j h3]; unfold kpF; rw [axf_a (by omega), axf_a (by omega), axf_a (by omega), axf_a (by omega), axf_a (by omega), axf_a (by omega), axf_a (by omega), axf_a (by omega)]
  · rw [e1 _ _ (by omega) (by omega) (by omega)]; unfold kpF; rw [axf_a (by omega), axf_a (by omega), axf_a (by omega), axf_a (by omega), axf_a (by omega), axf_a (by omega), axf_in (by omega) (by omega), g]
  · rw [e1 _ _ (by omega) (by omega) (by omega)]; unfold kpF; rw [axf_a (by omega), axf_a (by omega), axf_in (by omega) (by omega), g]
  · rw [e1 _ _ (by omega) (by omega) (by omega)]; unfold kpF; rw [axf_a (by omega), axf_a (by omega), axf_a (by omega), axf_a (by omega), axf_in (by omega) (by omega), g]
  · rw [e1 _ _ (by omega) (by omega) (by omega)]; unfold kpF; rw [axf_in (by omega) (by omega), g]
  · rw [hX]; unfold kpI; rw [axf_in (by omega) (by omega), g]
  · funext j
    by_cases h29 : q = o + 29
    · rw [h29, hX]; unfold kpI
      rw [axf_a (by omega)]
      refine sf _ _ _ _ _ ?_
      rw [axu_a (by omega), axu_a (by omega)]; unfold kpF
      rw [axf_a (by omega), axf_a (by omega), axf_a (by omega), axf_a (by omega), axf_a (by omega), axf_a (by omega), axf_a (by omega), axf_a (by omega)]
    · rw [e1 _ _ h29 (by omega) h1]; unfold kpF
      by_cases h20 : q = o + 20
      · rw [h20, axf_a (by omega), axf_a (by omega), axf_a (by omega), axf_a (by omega), axf_a (by omega), axf_a (by omega), axf_a (by omega)]; exact sf _ _ _ _ _ rfl
      · by_cases h21 : q = o + 21
        · rw [h21, axf_a (by omega), axf_a (by omega), axf_a (by omega)]; exact sf _ _ _ _ _ (by rw [axf_a (by omega), axf_a (by omega), axf_a (by omega), axf_a (by omega)])
        · by_cases h22 : q = o + 22
          · rw [h22, axf_a (by omega), axf_a (by omega), axf_a (by omega), axf_a (by omega), axf_a (by omega)]; exact sf _ _ _ _ _ (by rw [axf_a (by omega), axf_a (by omega)])
          · by_cases h23 : q = o + 23
            · rw [h23, axf_a (by omega)]; exact sf _ _ _ _ _ (by rw [axf_a (by omega), axf_a (by omega), axf_a (by omega), axf_a (by omega), axf_a (by omega), axf_a (by omega)])
            · rw [axf_a (by omega), axf_a h23, axf_a (by omega), axf_a h21, axf_a (by omega), axf_a h22, axf_a (by omega), axf_a h20]
theorem kp0_rs {σ X : Nat → Int → Int} {o : Nat} (h : miR σ o) (e35 : X o 35 = σ o 30) (e20 : ∀ j, 0 ≤ j → j < 408 → X (o + 24) j = σ (o + 20) j) (e21 : ∀ j, 0 ≤ j → j < 8 → X (o + 25) j = σ (o + 21) j) (e22 : ∀ j, 0 ≤ j → j < 48 → X (o + 26) j = σ (o + 22) j) (e23 : ∀ j, 0 ≤ j → j < 8 → X (o + 27) j = σ (o + 23) j) : kpL X o = rsL σ o := by
  unfold rsL kpL
  rw [e35]
  apply List.map_congr_left
  intro k hk
  have h1 := h.1
  have hk2 : (k : Int) < 8 := by have := List.mem_range.mp hk; omega
  have h3 := h.2.2.1 k
  have h5 := h.2.2.2.2.1 k
  unfold rsK rsW
  rw [e21 k (by omega) hk2, e23 k (by omega) hk2, seg_congr (f := X (o + 24)) (g := σ (o + 20)) (fun i a1 a2 => e20 i (by omega) (by omega)), seg_congr (f := X (o + 26)) (g := σ (o + 22)) (fun i a1 a2 => e22 i (by omega) (by omega))]
theorem td_rev {σ : Nat → Int → Int} {o : Nat} (hm : miC σ o) {b c : Int} (hb : 0 ≤ b ∧ b < 4) : tdL σ o b c = ((path (σ (o + 2)) (σ (o + 7) b)).filter (fun y => decide (y ∉ path (σ (o + 2)) c))).reverse := by
  have ht := hm.2.2.2.2.1 b hb.1 hb.2
  have h1 := path_rev hm.2.2.1 _ (σ (o + 7) b) (Nat.le_refl _) ht.1 ht.2 (σ o 2) ht.2
  unfold tdL
  rw [← List.filter_reverse, ← h1, List.filter_filter]
  apply List.filter_congr
  intro y _
  rw [Bool.and_comm]
/-- the numbers as a replay begins -/
theorem rpX_x {σ : Nat → Int → Int} {o : Nat} {b c : Int} {X : Nat → Int → Int} (hX : X = ax_u (rpE (plI σ o b c) o b c) o 40 0) : (X o 40 = 0 ∧ X o 41 = b ∧ X o 42 = c ∧ X o 43 = c ∧ X o 44 = σ o 2 ∧ X o 46 = ((tdL σ o b c).length : Int) ∧ X o 47 = 0 ∧ X o 35 = σ o 30) ∧ (∀ j, j = 0 ∨ j = 1 ∨ j = 2 ∨ j = 3 ∨ j = 30 → X o j = σ o j) ∧ (∀ j : Int, 0 ≤ j → j < ((tdL σ o b c).length : Int) → X (o + 28) j = lf (tdL σ o b c) j) ∧ (∀ j, 0 ≤ j → j < 4 → X (o + 29) j = 0) ∧ ((∀ j, 0 ≤ j → j < 408 → X (o + 24) j = σ (o + 20) j) ∧ (∀ j, 0 ≤ j → j < 8 → X (o + 25) j = σ (o + 21) j) ∧ (∀ j, 0 ≤ j → j < 48 → X (o + 26) j = σ (o + 22) j) ∧ (∀ j, 0 ≤ j → j < 8 → X (o + 27) j = σ (o + 23) j) ∧ ∀ j, 0 ≤ j → j < 4 → X (o + 30) j = σ (o + 29) j) ∧ ∀ q, q ≠ o → (q < o + 24 ∨ o + 30 < q) → X q = σ q := by
  obtain ⟨Y, hY⟩ : ∃ Y, Y = kpI (plI σ o b c) o 0 := ⟨_, rfl⟩
  obtain ⟨y35, yo, y24, y25, y26, y27, y30, yq⟩ := kp0_x hY
  have po : ∀ j, j ≠ 46 → plI σ o b c o j = σ o j := fun j hj => by unfold plI ax_l; rw [axf_a (by omega), axu_j hj]
  have p46 : plI σ o b c o 46 = ((tdL σ o b c).length : Int) := by unfold plI ax_l; rw [axf_a (by omega), axu_s]
  have pq : ∀ q, q ≠ o → q ≠ o + 28 → plI σ o b c q = σ q := fun q h1 h2 => by funext j; unfold plI ax_l; rw [axf_a h2, axu_a h1]
  have xo : ∀ j, j ≠ 40 → j ≠ 41 → j ≠ 42 → j ≠ 43 → j ≠ 44 → j ≠ 47 → X o j = Y o j := fun j h0 h1 h2 h3 h4 h5 => by
    rw [hX, axu_j h0]; unfold rpE; rw [axu_j h5, axu_j h4, axu_j h3, axu_j h2, axu_j h1, axf_a (by omega), hY]
  have xq : ∀ q, q ≠ o → q ≠ o + 29 → X q = Y q := fun q h1 h2 => by
    funext j; rw [hX, axu_a h1]; unfold rpE; rw [axu_a h1, axu_a h1, axu_a h1, axu_a h1, axu_a h1, axf_a h2, hY]
  refine ⟨⟨?_, ?_, ?_, ?_, ?_, ?_, ?_, ?_⟩, fun j hj => ?_, fun j j0 j1 => ?_, fun j j0 j1 => ?_, ⟨fun j j0 j1 => ?_, fun j j0 j1 => ?_, fun j j0 j1 => ?_, fun j j0 j1 => ?_, fun j j0 j1 => ?_⟩, fun q h1 h2 => ?_⟩
  · rw [hX, axu_s]
  · rw [hX, axu_j (by decide)]; unfold rpE; rw [axu_j (by decide), axu_j (by decide), axu_j (by decide), axu_j (by decide), axu_s]
  · rw [hX, axu_j (by decide)]; unfold rpE; rw [axu_j (by decide), axu_j (by decide), axu_j (by decide), axu_s]
  · rw [hX, axu_j (by decide)]; unfold rpE; rw [axu_j (by decide), axu_j (by decide), axu_s]
  · rw [hX, axu_j (by decide)]; unfold rpE; rw [axu_j (by decide), axu_s, po 2 (by decide)]
  · rw [xo 46 (by decide) (by decide) (by decide) (by decide) (by decide) (by decide), yo 46 (by decide), p46]
  · rw [hX, axu_j (by decide)]; unfold rpE; rw [axu_s]
  · rw [xo 35 (by decide) (by decide) (by decide) (by decide) (by decide) (by decide), y35, po 30 (by decide)]
  · rw [xo j (by omega) (by omega) (by omega) (by omega) (by omega) (by omega), yo j (by omega), po j (by omega)]
  · rw [xq _ (by omega) (by omega), yq _ (by omega) (by omega)]
    unfold plI ax_l
    rw [axf_in (by omega) (by omega)]
  · rw [hX, axu_a (by omega)]; unfold rpE; rw [axu_a (by omega), axu_a (by omega), axu_a (by omega), axu_a (by omega), axu_a (by omega), axf_in (by omega) (by omega)]
  · rw [xq _ (by omega) (by omega), y24 j j0 j1, pq _ (by omega) (by omega)]
  · rw [xq _ (by omega) (by omega), y25 j j0 j1, pq _ (by omega) (by omega)]
  · rw [xq _ (by omega) (by omega), y26 j j0 j1, pq _ (by omega) (by omega)]
  · rw [xq _ (by omega) (by omega), y27 j j0 j1, pq _ (by omega) (by omega)]
  · rw [xq _ (by omega) (by omega), y30 j j0 j1, pq _ (by omega) (by omega)]
  · rw [xq q h1 (by omega), yq q h1 (by omega), pq q h1 (by omega)]

set_option maxHeartbeats 4000000 in
set_option maxRecDepth 100000 in
theorem c_replay {G : ax_G} {T : Nat → Nat} {N : Nat → Int} {I : Nat → Int → Int} {R : Nat → Int → Option Nat} {z a o : Nat} {σ : Nat → Int → Int} {A w : Int → Nat} (h : RelA G T N I R z a o σ A w) (hI : miC σ o) (hR : miR σ o) (hMS : miS σ o) (hS : rpS σ o) (hz0 : σ (o + 6) 0 = 0) {b c : Int} (rb : ax_r b) (rc : ax_r c) : axM G YX11_replay 8 [vR a, vI b, vI c] T N I R z 48 528 (rPX G T N I R z a o (vI (rpl σ o b c).1) (rpl σ o b c).2) := by
  refine ax_enter (by decide) (Nat.le_of_ble_eq_true rfl) (ax_cat rfl) (fun f hC => ?_)
  show axX G f 48 528 _ 0 [vR a, vI b, vI c, vU, vU] [] T N I R z 48 528
  have hx := rl_fx h
  have b0 := fx_b0 hx
  have b1 := fx_b1 hx
  have hn9 := rl_n h
  have hC1 := hI.1
  have h8 := rl_st h
  have hs2 := hS.1
  have hu := c_isUnderWay (G := G) (I := I) hx (by rw [h8]; constructor <;> omega)
  by_cases hb : 0 ≤ b ∧ b < 4
  · have ht := hI.2.2.2.2.1 b hb.1 hb.2
    have t1 := ((rl_cs h).2 _ ht.1 ht.2).1
    by_cases hc : 0 ≤ c ∧ c < σ o 2
    · have c1 := ((rl_cs h).2 c hc.1 hc.2).1
      by_cases h40 : σ o 40 = 0
      · rw [bI_f (show ¬ (I (a + 183) 8 ≠ 0) by rw [h8, h40]; decide)] at hu
        have hlr := c_lacksRoom (G := G) (z := z) hx (rl_cs h) ht hc (by omega) (path_len hI ht)
        have htd := td_rev hI (c := c) hb
        have hll : (tdL σ o b c).length = ((path (σ (o + 2)) (σ (o + 7) b)).filter (fun y => decide (y ∉ path (σ (o + 2)) c))).length := by rw [htd, List.length_reverse]
        by_cases hrm : σ o 2 + ((tdL σ o b c).length : Int) ≤ 24
        · rw [bI_f (show ¬ (I a 2 + (((path (σ (o + 2)) (σ (o + 7) b)).filter (fun y => decide (y ∉ path (σ (o + 2)) c))).length : Int) > 24) by rw [hn9, ← hll]; omega)] at hlr
          have e0 : rpl σ o b c = goF o (tdL σ o b c).length 1 (ax_u (rpE (plI σ o b c) o b c) o 40 0) := by unfold rpl; rw [if_pos ⟨hb, hc⟩, if_pos h40, if_pos hrm]
          refine x_aload_n (pc := 0) hC dX11_replay_0 rfl ?_
          refine x_iload_n (pc := 1) hC dX11_replay_1 rfl ?_
          refine x_mV (pc := 2) hC cv_X11_81 dX11_replay_2 (rl_tip h hb) (fx_ta hx) rfl (by decide) rfl rfl (Nat.le_of_ble_eq_true rfl) ?_
          dsimp only [Option.toList, List.cons_append, List.nil_append]
          refine x_astore_n (pc := 5) hC dX11_replay_5 (Nat.le_of_ble_eq_true rfl) ?_
          dsimp only [List.set]
          refine x_aload_n (pc := 6) hC dX11_replay_6 rfl ?_
          refine x_iload_n (pc := 7) hC dX11_replay_7 rfl ?_
          refine x_mV (pc := 8) hC cv_X11_123 dX11_replay_8 (rl_at h hI hc) (fx_ta hx) rfl (by decide) rfl rfl (Nat.le_of_ble_eq_true rfl) ?_
          dsimp only [Option.toList, List.cons_append, List.nil_append]
          refine x_astore (pc := 11) hC dX11_replay_11 (Nat.le_of_ble_eq_true rfl) ?_
          dsimp only [List.set]
          refine x_aload_n (pc := 13) hC dX11_replay_13 rfl ?_
          refine x_ifnull (pc := 14) hC 22 dX11_replay_14 (by decide) (fun h => by cases h) (fun _ _ => ?_)
          refine x_aload (pc := 17) hC dX11_replay_17 rfl ?_
          refine x_ifnonnull (pc := 19) hC 24 dX11_replay_19 (by decide) (fun _ _ => ?_) (fun h => by cases h)
          refine x_aload_n (pc := 24) hC dX11_replay_24 rfl ?_
          refine x_mV (pc := 25) hC cv_X11_89 dX11_replay_25 hu (fx_ta hx) rfl (by decide) rfl rfl (Nat.le_of_ble_eq_true rfl) ?_
          dsimp only [Option.toList, List.cons_append, List.nil_append]
          refine x_if_eq (pc := 28) hC 34 dX11_replay_28 (by decide) (by decide) (fun _ => ?_) (fun h => absurd rfl h)
          refine x_aload_n (pc := 34) hC dX11_replay_34 rfl ?_
          refine x_aload_n (pc := 35) hC dX11_replay_35 rfl ?_
          refine x_aload (pc := 36) hC dX11_replay_36 rfl ?_
          refine x_mV (pc := 38) hC cv_X11_241 dX11_replay_38 hlr (fx_ta hx) rfl (by decide) rfl rfl (Nat.le_of_ble_eq_true rfl) ?_
          dsimp only [Option.toList, List.cons_append, List.nil_append]
          refine x_if_eq (pc := 41) hC 47 dX11_replay_41 (by decide) (by decide) (fun _ => ?_) (fun h => absurd rfl h)
          refine x_aload_n (pc := 47) hC dX11_replay_47 rfl ?_
          refine x_getO (pc := 48) hC gf_X11_64 dX11_replay_48 (fx_ta hx) (fx_cu hx).1 ?_
          refine x_aload_n (pc := 51) hC dX11_replay_51 rfl ?_
          refine x_getI (pc := 52) hC gf_X11_105 dX11_replay_52 (fx_ta hx) ?_
          refine x_aload_n (pc := 55) hC dX11_replay_55 rfl ?_
          refine x_getO (pc := 56) hC gf_X11_36 dX11_replay_56 (fx_ta hx) (fx_mg hx).1 ?_
          refine x_rV (pc := 59) hC cv_X11_245 dX11_replay_59 (c_remember (fx_cu hx).2.1 (fx_mg hx).2 (rl_r7 h).1 (by omega) (by omega)) (fx_cu hx).2.1.1 rfl (by decide) rfl rfl (Nat.le_of_ble_eq_true rfl) ?_
          rintro v9 J1 S1 ⟨rfl, ⟨⟨q1, q2⟩, q3, q4, q5⟩, q6, q7⟩
          dsimp only [Option.toList, List.nil_append]
          have hx1 : fxS G T N S1 z a o := fx_up hx (fun _ _ => ⟨rfl, rfl⟩) (q6 a (by omega)) (q6 _ (by omega)) (fun k _ => by rw [q6 (a + 5) (by omega)]) (fun q a1 a2 => q6 q (by omega)) (fun k _ _ => by rw [q6 (a + 183) (by omega)]) (fun k _ _ => by rw [q6 (a + 189) (by omega)]) (Nat.le_refl _) (fx_tz hx)
          have cA : ∀ d, 0 ≤ d → d < σ o 2 → (A d = a + 182 ∨ o + 37 ≤ A d) ∧ (w d < a ∨ o + 37 ≤ w d) := fun d d0 d1 => by
            have e1 := (rl_cc h d d0 d1).2.2.2.2.2.2
            have nl := (fx_nl hx).2
            exact ⟨e1.1, by omega⟩
          have hcs1 : cmS T N J1 S1 A w (σ o 2) (σ (o + 2)) := ⟨(rl_cs h).1, fun d d0 d1 => by
            obtain ⟨y1, y2, y3, y4, y5⟩ := (rl_cs h).2 d d0 d1
            obtain ⟨y6, y7⟩ := cA d d0 d1
            rw [q4 (A d) (by omega) (by omega), q6 (A d) (by omega)]
            exact ⟨y1, y2, y3, y4, rwS_fr y5 (q4 (w d) (by omega) (by omega))⟩⟩
          refine x_aload_n (pc := 62) hC dX11_replay_62 rfl ?_
          refine x_getO (pc := 63) hC gf_X11_64 dX11_replay_63 (fx_ta hx) (fx_cu hx1).1 ?_
          refine x_iload_n (pc := 66) hC dX11_replay_66 rfl ?_
          refine x_aload_n (pc := 67) hC dX11_replay_67 rfl ?_
          refine x_aload (pc := 68) hC dX11_replay_68 rfl ?_
          refine x_rV (pc := 70) hC cv_X11_249 dX11_replay_70 (c_begin hcs1 (fx_cu hx1).2.1 ⟨by omega, fun d d0 d1 => by have := (cA d d0 d1).2; omega⟩ ht hc (path_len hI ht) (path_len hI hc)) (fx_cu hx1).2.1.1 rfl (by decide) rfl rfl (Nat.le_of_ble_eq_true rfl) ?_
          rintro v9 J2 S2 ⟨rfl, ⟨⟨u1, u2, u3⟩, u4, u5, u6⟩, ⟨v1, v2, v3, v4⟩, l1, l2⟩
          dsimp only [Option.toList, List.nil_append]
          obtain ⟨X, hX⟩ : ∃ X, X = ax_u (rpE (plI σ o b c) o b c) o 40 0 := ⟨_, rfl⟩
          rw [← hX] at e0
          obtain ⟨⟨x40, x41, x42, x43, x44, x46, x47, x35⟩, xo, x28, x29, ⟨x24, x25, x26, x27, x30⟩, xq⟩ := rpX_x hX
          have i2 : ∀ q, q ≠ a + 183 → q ≠ a + 186 → q ≠ a + 187 → J2 q = I q := fun q e1 e2 e3 => (u5 q e1 (by omega)).trans (q4 q e1 (by omega))
          have s2 : ∀ q, q ≠ a + 183 → q ≠ a + 184 → q ≠ a + 185 → q ≠ a + 188 → S2 q = R q := fun q e1 e2 e3 e4 => (v4 q e1 e2 (by omega)).trans (q6 q (by omega))
          have s88 : ∀ j, 0 ≤ j → j < 8 → S2 (a + 188) j = R (a + 6) j := fun j j0 j1 => by rw [v4 (a + 188) (by omega) (by omega) (by omega)]; exact q7 j j0 j1
          have hkp : kpL X o = rsL σ o := kp0_rs hR x35 x24 x25 x26 x27
          have hth : thR X o = (path (σ (o + 2)) c).filter (fun y => decide (y ∉ path (σ (o + 2)) (σ (o + 7) b))) := by unfold thR; rw [xq (o + 2) (by omega) (by omega), xq (o + 7) (by omega) (by omega), x42, x41]
          have hrs := rl_rs h
          have i8 : J2 (a + 183) 8 = 0 := by rw [u4 8 (by decide) (by decide) (by decide), q3 8 (by decide) (by decide), h8]; exact h40
          have hrl0 : RelA G T N J2 S2 z a o X A w := rl_rep h i2 s2 (fun k e1 e2 => by rw [v3 k e1 e2, q6 (a + 183) (by omega)]) (fun k hk => xo k (by omega)) (fun q e1 e2 => xq q e1 (by omega)) (fun j v a1 a2 hv => by rw [s88 j a1 a2] at hv; exact (rl_r7 h).1 j v a1 a2 hv) (fun k k0 k1 => (u6 k k0 k1).trans (x29 k k0 k1).symm) (by rw [i8, x40]) (fun h9 => absurd x40 h9)
          have hK : rpK T N J2 S2 a o X A := by
            unfold rpK
            rw [x41, x42, x43, x44, x46, x47, hkp, hth]
            refine ⟨⟨u1, by rw [u2, hll]; omega, u3, by rw [u4 10 (by decide) (by decide) (by decide), q1]; exact hn9⟩, ⟨v1, v2⟩, fun k k0 k1 => ?_, l2, fun k k0 k1 => ?_, by rw [u4 13 (by decide) (by decide) (by decide), q2]; exact hrs.1, hrs.2.1, fun k p hp => ?_⟩
            · have hk2 : k.toNat < ((path (σ (o + 2)) (σ (o + 7) b)).filter (fun y => decide (y ∉ path (σ (o + 2)) c))).length := by omega
              have hg : ((path (σ (o + 2)) (σ (o + 7) b)).filter (fun y => decide (y ∉ path (σ (o + 2)) c)))[k.toNat]? = some (((path (σ (o + 2)) (σ (o + 7) b)).filter (fun y => decide (y ∉ path (σ (o + 2)) c)))[k.toNat]'hk2) := List.getElem?_eq_getElem hk2
              have := l1 k.toNat _ hg
              rw [show ((k.toNat : Nat) : Int) = k by omega] at this
              refine this.trans ?_
              have e9 : (tdL σ o b c)[(((tdL σ o b c).length : Int) - 1 - k).toNat]? = some (((path (σ (o + 2)) (σ (o + 7) b)).filter (fun y => decide (y ∉ path (σ (o + 2)) c)))[k.toNat]'hk2) := by
                rw [hll, htd, List.getElem?_reverse (by omega), ← hg]
                congr 1
                omega
              have hval : lf (tdL σ o b c) (((tdL σ o b c).length : Int) - 1 - k) = ((path (σ (o + 2)) (σ (o + 7) b)).filter (fun y => decide (y ∉ path (σ (o + 2)) c)))[k.toNat]'hk2 := by
                unfold lf
                rw [List.getD_eq_getElem?_getD, e9]
                rfl
              rw [x28 _ (by omega) (by omega), hval]
            · rw [u5 (a + 187) (by omega) (by omega), x30 k k0 k1]
              exact (q5 k k0 k1).trans (rl_fg h k k0 k1)
            · obtain ⟨q, y1, y2⟩ := hrs.2.2 k p hp
              have hk8 : (k : Int) < 8 := by have := (List.getElem?_eq_some_iff.mp hp).1; omega
              exact ⟨q, by rw [s88 k (by omega) hk8]; exact y1, reE_fr y2 (fun u hu _ hs => ⟨i2 u (by omega) (by omega) (by omega), fun s h9 => by rw [s2 _ (by omega) (by omega) (by omega) (by omega)]; exact hs s h9⟩) (fun q hq _ => s2 q (by omega) (by omega) (by omega) (by omega))⟩
          have hmid : Mid G T N J2 S2 z a o X A w 0 := ⟨by rw [axu_id x40.symm]; exact hrl0, hK⟩
          have hxM := rl_fx hmid.1
          have gX : gI X o := by
            have := gI_rpE (b := b) (c := c) hI hR hb hc
            rw [hX]
            refine ⟨e_miC this.1, e_miR this.2.1, ?_⟩
            obtain ⟨_, _, r9⟩ := this
            unfold rp at *
            rw [e_fld (by decide), e_fld (by decide), e_fld (by decide), e_fld (by decide), e_fld (by decide), e_fld (by decide), e_fld (by decide), e_row (by omega)]
            exact r9
          have cX : cI X o := ⟨gX, miS_fr hMS (xo 3 (by omega)) (xq _ (by omega) (by omega)) (fun q e1 e2 => xq q (by omega) (by omega)), by rw [xo 2 (by omega), x46, x47]; omega, Or.inl (by rw [x43, x42]), by rw [x42, x44]; exact hc.2, by rw [x44, xo 2 (by omega)]; exact Int.le_refl _, by rw [xq _ (by omega) (by omega)]; exact hz0, x40⟩
          have hcar := c_carry (fl := 1) (W := rpl σ o b c) hmid cX (fun h9 => absurd h9 (by decide)) (by rw [e0, x46, x47, Int.sub_zero, Int.toNat_natCast])
          refine x_aload_n (pc := 73) hC dX11_replay_73 rfl ?_
          refine x_aload_n (pc := 74) hC dX11_replay_74 rfl ?_
          refine x_aload_n (pc := 75) hC dX11_replay_75 rfl ?_
          refine x_getO (pc := 76) hC gf_X11_64 dX11_replay_76 (fx_ta hx) (fx_cu hxM).1 ?_
          refine x_callV (pc := 79) hC cv_X11_253 dX11_replay_79 hcar (fx_ta hx) rfl (by decide) (by omega) (by omega) rfl rfl (Nat.le_of_ble_eq_true rfl) (fun _ _ _ _ _ _ hq => ?_)
          obtain ⟨s, σ2, A2, w2, rfl, f2, z2, h2, cc2, hW2, hs9, -⟩ := hq
          dsimp only [Option.toList, List.cons_append, List.nil_append]
          have hx2 := rl_fx h2.1
          refine x_callV (pc := 82) hC cv_X11_257 dX11_replay_82 (c_stopOr h2 cc2 hW2 hs9) (fx_ta hx2) rfl (by decide) (by omega) (by omega) rfl rfl (Nat.le_of_ble_eq_true rfl) (fun _ _ _ _ _ _ hq => ?_)
          obtain ⟨rfl, f3, z3, A3, w3, h3⟩ := hq
          dsimp only [Option.toList, List.cons_append, List.nil_append]
          refine x_iret (pc := 85) hC rfl dX11_replay_85 ?_
          exact ⟨rfl, (fro.tr (fun q hq => ⟨rfl, rfl, i2 q (by omega) (by omega) (by omega), s2 q (by omega) (by omega) (by omega) (by omega)⟩) f2).tr f3, by omega, A3, w3, h3⟩
        · rw [bI_t (show I a 2 + (((path (σ (o + 2)) (σ (o + 7) b)).filter (fun y => decide (y ∉ path (σ (o + 2)) c))).length : Int) > 24 by rw [hn9, ← hll]; omega)] at hlr
          have e0 : rpl σ o b c = (-4, plI σ o b c) := by unfold rpl; rw [if_pos ⟨hb, hc⟩, if_pos h40, if_neg hrm]
          rw [e0]
          refine x_aload_n (pc := 0) hC dX11_replay_0 rfl ?_
          refine x_iload_n (pc := 1) hC dX11_replay_1 rfl ?_
          refine x_mV (pc := 2) hC cv_X11_81 dX11_replay_2 (rl_tip h hb) (fx_ta hx) rfl (by decide) rfl rfl (Nat.le_of_ble_eq_true rfl) ?_
          dsimp only [Option.toList, List.cons_append, List.nil_append]
          refine x_astore_n (pc := 5) hC dX11_replay_5 (Nat.le_of_ble_eq_true rfl) ?_
          dsimp only [List.set]
          refine x_aload_n (pc := 6) hC dX11_replay_6 rfl ?_
          refine x_iload_n (pc := 7) hC dX11_replay_7 rfl ?_
          refine x_mV (pc := 8) hC cv_X11_123 dX11_replay_8 (rl_at h hI hc) (fx_ta hx) rfl (by decide) rfl rfl (Nat.le_of_ble_eq_true rfl) ?_
          dsimp only [Option.toList, List.cons_append, List.nil_append]
          refine x_astore (pc := 11) hC dX11_replay_11 (Nat.le_of_ble_eq_true rfl) ?_
          dsimp only [List.set]
          refine x_aload_n (pc := 13) hC dX11_replay_13 rfl ?_
          refine x_ifnull (pc := 14) hC 22 dX11_replay_14 (by decide) (fun h => by cases h) (fun _ _ => ?_)
          refine x_aload (pc := 17) hC dX11_replay_17 rfl ?_
          refine x_ifnonnull (pc := 19) hC 24 dX11_replay_19 (by decide) (fun _ _ => ?_) (fun h => by cases h)
          refine x_aload_n (pc := 24) hC dX11_replay_24 rfl ?_
          refine x_mV (pc := 25) hC cv_X11_89 dX11_replay_25 hu (fx_ta hx) rfl (by decide) rfl rfl (Nat.le_of_ble_eq_true rfl) ?_
          dsimp only [Option.toList, List.cons_append, List.nil_append]
          refine x_if_eq (pc := 28) hC 34 dX11_replay_28 (by decide) (by decide) (fun _ => ?_) (fun h => absurd rfl h)
          refine x_aload_n (pc := 34) hC dX11_replay_34 rfl ?_
          refine x_aload_n (pc := 35) hC dX11_replay_35 rfl ?_
          refine x_aload (pc := 36) hC dX11_replay_36 rfl ?_
          refine x_mV (pc := 38) hC cv_X11_241 dX11_replay_38 hlr (fx_ta hx) rfl (by decide) rfl rfl (Nat.le_of_ble_eq_true rfl) ?_
          dsimp only [Option.toList, List.cons_append, List.nil_append]
          refine x_if_eq (pc := 41) hC 47 dX11_replay_41 (by decide) (by decide) (fun h => absurd h (by decide)) (fun _ => ?_)
          refine x_bipush (pc := 44) hC dX11_replay_44 (by decide) ?_
          refine x_iret (pc := 46) hC rfl dX11_replay_46 ?_
          refine ⟨rfl, fun _ _ => ⟨rfl, rfl, rfl, rfl⟩, Nat.le_refl _, A, w, ?_⟩
          have po : ∀ j, j ≠ 46 → plI σ o b c o j = σ o j := fun j hj => by unfold plI ax_l; rw [axf_a (by omega), axu_j hj]
          have pq : ∀ q, q ≠ o → q ≠ o + 28 → plI σ o b c q = σ q := fun q e1 e2 => by funext j; unfold plI ax_l; rw [axf_a e2, axu_a e1]
          exact rl_rep h (fun _ _ _ _ => rfl) (fun _ _ _ _ _ => rfl) (fun _ _ _ => rfl) (fun k hk => po k (by omega)) (fun q e1 e2 => pq q e1 (by omega)) (rl_r7 h).2 (fun k k0 k1 => by rw [pq _ (by omega) (by omega)]; exact rl_fg h k k0 k1) (by rw [po 40 (by decide)]; exact h8) (fun h9 => absurd (by rw [po 40 (by decide)]; exact h40) h9)
      · rw [bI_t (show I (a + 183) 8 ≠ 0 by rw [h8]; exact h40)] at hu
        have hlr := c_lacksRoom (G := G) (z := z) hx (rl_cs h) ht hc (by omega) (path_len hI ht)
        have e0 : rpl σ o b c = (-3, σ) := by unfold rpl; rw [if_pos ⟨hb, hc⟩, if_neg h40]
        rw [e0]
        refine x_aload_n (pc := 0) hC dX11_replay_0 rfl ?_
        refine x_iload_n (pc := 1) hC dX11_replay_1 rfl ?_
        refine x_mV (pc := 2) hC cv_X11_81 dX11_replay_2 (rl_tip h hb) (fx_ta hx) rfl (by decide) rfl rfl (Nat.le_of_ble_eq_true rfl) ?_
        dsimp only [Option.toList, List.cons_append, List.nil_append]
        refine x_astore_n (pc := 5) hC dX11_replay_5 (Nat.le_of_ble_eq_true rfl) ?_
        dsimp only [List.set]
        refine x_aload_n (pc := 6) hC dX11_replay_6 rfl ?_
        refine x_iload_n (pc := 7) hC dX11_replay_7 rfl ?_
        refine x_mV (pc := 8) hC cv_X11_123 dX11_replay_8 (rl_at h hI hc) (fx_ta hx) rfl (by decide) rfl rfl (Nat.le_of_ble_eq_true rfl) ?_
        dsimp only [Option.toList, List.cons_append, List.nil_append]
        refine x_astore (pc := 11) hC dX11_replay_11 (Nat.le_of_ble_eq_true rfl) ?_
        dsimp only [List.set]
        refine x_aload_n (pc := 13) hC dX11_replay_13 rfl ?_
        refine x_ifnull (pc := 14) hC 22 dX11_replay_14 (by decide) (fun h => by cases h) (fun _ _ => ?_)
        refine x_aload (pc := 17) hC dX11_replay_17 rfl ?_
        refine x_ifnonnull (pc := 19) hC 24 dX11_replay_19 (by decide) (fun _ _ => ?_) (fun h => by cases h)
        refine x_aload_n (pc := 24) hC dX11_replay_24 rfl ?_
        refine x_mV (pc := 25) hC cv_X11_89 dX11_replay_25 hu (fx_ta hx) rfl (by decide) rfl rfl (Nat.le_of_ble_eq_true rfl) ?_
        dsimp only [Option.toList, List.cons_append, List.nil_append]
        refine x_if_eq (pc := 28) hC 34 dX11_replay_28 (by decide) (by decide) (fun h => absurd h (by decide)) (fun _ => ?_)
        refine x_bipush (pc := 31) hC dX11_replay_31 (by decide) ?_
        refine x_iret (pc := 33) hC rfl dX11_replay_33 ?_
        exact rl_p0 h
    · have e0 : rpl σ o b c = (-1, σ) := by unfold rpl; rw [if_neg (fun h9 => hc h9.2)]
      rw [e0]
      refine x_aload_n (pc := 0) hC dX11_replay_0 rfl ?_
      refine x_iload_n (pc := 1) hC dX11_replay_1 rfl ?_
      refine x_mV (pc := 2) hC cv_X11_81 dX11_replay_2 (rl_tip h hb) (fx_ta hx) rfl (by decide) rfl rfl (Nat.le_of_ble_eq_true rfl) ?_
      dsimp only [Option.toList, List.cons_append, List.nil_append]
      refine x_astore_n (pc := 5) hC dX11_replay_5 (Nat.le_of_ble_eq_true rfl) ?_
      dsimp only [List.set]
      refine x_aload_n (pc := 6) hC dX11_replay_6 rfl ?_
      refine x_iload_n (pc := 7) hC dX11_replay_7 rfl ?_
      refine x_mV (pc := 8) hC cv_X11_123 dX11_replay_8 (rl_no h hI rc hc) (fx_ta hx) rfl (by decide) rfl rfl (Nat.le_of_ble_eq_true rfl) ?_
      dsimp only [Option.toList, List.cons_append, List.nil_append]
      refine x_astore (pc := 11) hC dX11_replay_11 (Nat.le_of_ble_eq_true rfl) ?_
      dsimp only [List.set]
      refine x_aload_n (pc := 13) hC dX11_replay_13 rfl ?_
      refine x_ifnull (pc := 14) hC 22 dX11_replay_14 (by decide) (fun h => by cases h) (fun _ _ => ?_)
      refine x_aload (pc := 17) hC dX11_replay_17 rfl ?_
      refine x_ifnonnull (pc := 19) hC 24 dX11_replay_19 (by decide) (fun _ h => by cases h) (fun _ => ?_)
      refine x_iconst (pc := 22) hC dX11_replay_22 ?_
      refine x_iret (pc := 23) hC rfl dX11_replay_23 ?_
      exact rl_p0 h
  · have e0 : rpl σ o b c = (-1, σ) := by unfold rpl; rw [if_neg (fun h9 => hb h9.1)]
    rw [e0]
    refine x_aload_n (pc := 0) hC dX11_replay_0 rfl ?_
    refine x_iload_n (pc := 1) hC dX11_replay_1 rfl ?_
    refine x_mV (pc := 2) hC cv_X11_81 dX11_replay_2 (rl_nt h rb hb) (fx_ta hx) rfl (by decide) rfl rfl (Nat.le_of_ble_eq_true rfl) ?_
    dsimp only [Option.toList, List.cons_append, List.nil_append]
    refine x_astore_n (pc := 5) hC dX11_replay_5 (Nat.le_of_ble_eq_true rfl) ?_
    dsimp only [List.set]
    refine x_aload_n (pc := 6) hC dX11_replay_6 rfl ?_
    refine x_iload_n (pc := 7) hC dX11_replay_7 rfl ?_
    refine x_mV (pc := 8) hC cv_X11_123 dX11_replay_8 (c_commitAt hx (c := c) rc (by omega)) (fx_ta hx) rfl (by decide) rfl rfl (Nat.le_of_ble_eq_true rfl) ?_
    dsimp only [Option.toList, List.cons_append, List.nil_append]
    refine x_astore (pc := 11) hC dX11_replay_11 (Nat.le_of_ble_eq_true rfl) ?_
    dsimp only [List.set]
    refine x_aload_n (pc := 13) hC dX11_replay_13 rfl ?_
    refine x_ifnull (pc := 14) hC 22 dX11_replay_14 (by decide) (fun _ => ?_) (fun _ h => by cases h)
    refine x_iconst (pc := 22) hC dX11_replay_22 ?_
    refine x_iret (pc := 23) hC rfl dX11_replay_23 ?_
    exact rl_p0 h

