/-! THE CLASS: commit -/
theorem md_x {σ : Nat → Int → Int} {o : Nat} {k p g n : Int} {F : Int → Int} (hl : ∀ c, 0 ≤ σ (o + 6) c ∧ σ (o + 6) c ≤ 16) (hn : 0 ≤ n ∧ n ≤ 16) {X : Nat → Int → Int} (hX : X = ax_f (ax_u (mdI σ o k p g) (o + 6) (σ o 2) n) (o + 5) (16 * σ o 2) n F) : (X o 2 = σ o 2 + 1 ∧ X o 1 = mdT k g (σ o 1) ∧ X o 3 = σ o 3 + 1 ∧ ∀ j, j ≠ 1 → j ≠ 2 → j ≠ 3 → X o j = σ o j) ∧ ((∀ c, c ≠ σ o 2 → X (o + 1) c = σ (o + 1) c ∧ X (o + 2) c = σ (o + 2) c ∧ X (o + 3) c = σ (o + 3) c ∧ X (o + 4) c = σ (o + 4) c ∧ X (o + 6) c = σ (o + 6) c) ∧ (X (o + 1) (σ o 2) = k ∧ X (o + 2) (σ o 2) = p ∧ X (o + 3) (σ o 2) = g ∧ X (o + 4) (σ o 2) = σ o 3 + 1 ∧ X (o + 6) (σ o 2) = n)) ∧ (∀ c, c ≠ σ o 2 → rowL X o c = rowL σ o c) ∧ rowL X o (σ o 2) = seg F (16 * σ o 2) (16 * σ o 2 + n) ∧ ∀ x, o + 6 < x → X x = σ x := by
  have e6 : ∀ c, X (o + 6) c = if c = σ o 2 then n else σ (o + 6) c := fun c => by
    rw [hX, axf_a (by omega)]
    by_cases hc : c = σ o 2
    · rw [if_pos hc, hc, axu_s]
    · rw [if_neg hc, axu_j hc]
      unfold mdI
      rw [axu_a (by omega), axu_j hc, axu_a (by omega), axu_a (by omega), axu_a (by omega), axu_a (by omega), axu_a (by omega), axu_a (by omega)]
  have eo : ∀ j, X o j = mdI σ o k p g o j := fun j => by rw [hX, axf_a (by omega), axu_a (by omega)]
  have er : ∀ x c, x = 1 ∨ x = 2 ∨ x = 3 ∨ x = 4 → X (o + x) c = mdI σ o k p g (o + x) c := fun x c hx => by rw [hX, axf_a (by omega), axu_a (by omega)]
  have e5 : ∀ j, j < 16 * σ o 2 ∨ 16 * σ o 2 + n ≤ j → X (o + 5) j = σ (o + 5) j := fun j hj => by
    rw [hX, axf_out hj, axu_a (by omega)]
    unfold mdI
    rw [axu_a (by omega), axu_a (by omega), axu_a (by omega), axu_a (by omega), axu_a (by omega), axu_a (by omega), axu_a (by omega), axu_a (by omega)]
  refine ⟨⟨?_, ?_, ?_, fun j h1 h2 h3 => ?_⟩, ⟨fun c hc => ⟨?_, ?_, ?_, ?_, by rw [e6, if_neg hc]⟩, ?_, ?_, ?_, ?_, by rw [e6, if_pos rfl]⟩, fun c hc => ?_, ?_, fun x hx => ?_⟩
  · rw [eo]; unfold mdI; rw [axu_j (by decide), axu_a (by omega), axu_a (by omega), axu_j (by decide), axu_a (by omega), axu_a (by omega), axu_a (by omega), axu_s]
  · rw [eo]; unfold mdI; rw [axu_s]
  · rw [eo]; unfold mdI; rw [axu_j (by decide), axu_a (by omega), axu_a (by omega), axu_s]
  · rw [eo]; unfold mdI; rw [axu_j h1, axu_a (by omega), axu_a (by omega), axu_j h3, axu_a (by omega), axu_a (by omega), axu_a (by omega), axu_j h2]
  · rw [er 1 c (by omega)]; unfold mdI; rw [axu_a (by omega), axu_a (by omega), axu_a (by omega), axu_a (by omega), axu_a (by omega), axu_a (by omega), axu_j hc, axu_a (by omega)]
  · rw [er 2 c (by omega)]; unfold mdI; rw [axu_a (by omega), axu_a (by omega), axu_a (by omega), axu_a (by omega), axu_a (by omega), axu_j hc, axu_a (by omega), axu_a (by omega)]
  · rw [er 3 c (by omega)]; unfold mdI; rw [axu_a (by omega), axu_a (by omega), axu_a (by omega), axu_a (by omega), axu_j hc, axu_a (by omega), axu_a (by omega), axu_a (by omega)]
  · rw [er 4 c (by omega)]; unfold mdI; rw [axu_a (by omega), axu_a (by omega), axu_j hc, axu_a (by omega), axu_a (by omega), axu_a (by omega), axu_a (by omega), axu_a (by omega)]
  · rw [er 1 _ (by omega)]; unfold mdI; rw [axu_a (by omega), axu_a (by omega), axu_a (by omega), axu_a (by omega), axu_a (by omega), axu_a (by omega), axu_s]
  · rw [er 2 _ (by omega)]; unfold mdI; rw [axu_a (by omega), axu_a (by omega), axu_a (by omega), axu_a (by omega), axu_a (by omega), axu_s]
  · rw [er 3 _ (by omega)]; unfold mdI; rw [axu_a (by omega), axu_a (by omega), axu_a (by omega), axu_a (by omega), axu_s]
  · rw [er 4 _ (by omega)]; unfold mdI; rw [axu_a (by omega), axu_a (by omega), axu_s]
  · unfold rowL
    rw [e6, if_neg hc]
    have := hl c
    exact seg_congr (fun j a1 a2 => e5 _ (by omega))
  · unfold rowL
    rw [e6, if_pos rfl]
    exact seg_shift (by omega) (fun j a1 a2 => by
      show X (o + 5) (16 * σ o 2 + (0 + j)) = _
      rw [hX, axf_in (by omega) (by omega)]
      congr 1
      omega)
  · funext j
    rw [hX, axf_a (by omega), axu_a (by omega)]
    unfold mdI
    rw [axu_a (by omega), axu_a (by omega), axu_a (by omega), axu_a (by omega), axu_a (by omega), axu_a (by omega), axu_a (by omega), axu_a (by omega)]
theorem rl_fb {G : ax_G} {T : Nat → Nat} {N : Nat → Int} {I : Nat → Int → Int} {R : Nat → Int → Option Nat} {z a o : Nat} {σ : Nat → Int → Int} {A w : Int → Nat} (h : RelA G T N I R z a o σ A w) {J : Nat → Int → Int} {n : Nat} (hn : n < 5) (hJ : J (a + 177 + n) 1 = I (a + 177 + n) 1) : fbR J R (a + 177 + n) = if σ (o + 31) n = -9 then 1 else if σ (o + 31) n = 0 then 0 else 2 := by
  have h1 := rl_em h hn
  have h2 := (rl_so h hn).1
  unfold fbR
  rw [hJ]
  by_cases e : σ (o + 31) n = -9
  · rw [if_pos e, if_pos (h1.mpr e)]
  · rw [if_neg e, if_neg (fun h9 => e (h1.mp h9))]
    by_cases e0 : σ (o + 31) n = 0
    · rw [if_pos e0, if_pos (h2.mpr e0)]
    · rw [if_neg e0, if_neg (fun h9 => e0 (h2.mp h9))]

theorem miS_f {σ : Nat → Int → Int} {o : Nat} {f : Int} (h : miS σ o) : miS (ax_u σ o 0 f) o := by
  unfold miS at *
  rw [axu_row (show o + 31 ≠ o by omega), axu_row (show o + 32 ≠ o by omega), axu_row (show o + 33 ≠ o by omega), axu_row (show o + 34 ≠ o by omega), axu_row (show o + 35 ≠ o by omega), axu_row (show o + 36 ≠ o by omega), axu_row (show o + 4 ≠ o by omega), axu_j (show (3 : Int) ≠ 0 by decide)]
  exact h
set_option maxHeartbeats 4000000 in
set_option maxRecDepth 100000 in
theorem c_commit {G : ax_G} {T : Nat → Nat} {N : Nat → Int} {I : Nat → Int → Int} {R : Nat → Int → Option Nat} {z a o : Nat} {σ : Nat → Int → Int} {A w : Int → Nat} (h : RelA G T N I R z a o σ A w) (hI : miC σ o) (hMS : miS σ o) (hS : rpS σ o) {b k s : Int} (rb : ax_r b) (rk : ax_r k) (rs : ax_r s) : axM G YX11_commit 5 [vR a, vI b, vI k, vI s] T N I R z 2 22 (rPX G T N I R z a o (vI (cm σ o b k s).1) (cm σ o b k s).2) := by
  refine ax_enter (by decide) (Nat.le_of_ble_eq_true rfl) (ax_cat rfl) (fun f hC => ?_)
  show axX G f 2 22 _ 0 [vR a, vI b, vI k, vI s, vU, vU, vU, vU] [] T N I R z 2 22
  have hx := rl_fx h
  have b1 := fx_b1 hx
  have b2 := fx_b2 hx
  have hn9 := rl_n h
  have hC1 := hI.1
  have h8 := rl_st h
  have hs2 := hS.1
  have h0 := rl_f0 h 0
  have i1 : ∀ n, ax_u I a 11 0 (a + 177 + n) 1 = I (a + 177 + n) 1 := fun n => axu_a (by omega)
  have e8 : ax_u I a 11 0 (a + 183) 8 = σ o 40 := by rw [axu_a (by omega)]; exact h8
  have hu := c_isUnderWay (G := G) (I := ax_u I a 11 0) hx (by rw [e8]; constructor <;> omega)
  have t7 : ax_u σ o 0 0 (o + 7) = σ (o + 7) := axu_row (by omega)
  unfold cm
  by_cases hb4 : 0 ≤ b ∧ b < 4
  · have ht := hI.2.2.2.2.1 b hb4.1 hb4.2
    obtain ⟨t1, t2, -⟩ := (rl_cs h).2 _ ht.1 ht.2
    have htp : axE G YX11_tipOf 0 [vR a, vI b] T N (ax_u I a 11 0) R z (some (vR (A (σ (o + 7) b)))) (ax_u I a 11 0) := by have := rl_tip h0 hb4; rw [t7] at this; exact this
    by_cases hs5 : 0 ≤ s ∧ s < 5
    · obtain ⟨n, rfl⟩ : ∃ n : Nat, s = n := ⟨s.toNat, by omega⟩
      have hn : n < 5 := by omega
      obtain ⟨k1, k2, k3, k4, k5⟩ := rl_sl h n hn
      have i1 := i1 n
      rw [if_pos ⟨hb4, hs5⟩]
      by_cases hk : 0 ≤ k ∧ k ≤ 2
      · rw [if_pos hk]
        by_cases h40 : σ o 40 = 0
        · rw [if_pos h40]
          rw [bI_f (show ¬ (ax_u I a 11 0 (a + 183) 8 ≠ 0) by rw [e8, h40]; decide)] at hu
          by_cases hso : σ (o + 31) n = 0
          · rw [if_pos (show σ (o + 31) n ≤ 0 by omega), if_neg (show ¬ σ (o + 31) n = -9 by omega)]
            obtain ⟨x1, x2, u, hit, u13, uN, uL, uo⟩ := k4 (Or.inl hso)
            obtain ⟨-, -, ur⟩ := rl_ar h hMS hn u hit
            have hb24 := hMS.2.1 n
            have une : u ≠ a := by omega
            have hui : ∀ j, ax_u I a 11 0 u j = I u j := fun j => axu_a une
            have hal : (N u ≤ 16 ∧ ∀ j, 0 ≤ j → j < N u → 0 ≤ ax_u I a 11 0 u j ∧ ax_u I a 11 0 u j < 100) ↔ alP (slL σ o n) 16 := by
              unfold alP lnB
              rw [← uL, seg_len]
              constructor
              · rintro ⟨y1, y2⟩
                refine ⟨by omega, fun v hv => ?_⟩
                obtain ⟨j, j0, j1, rfl⟩ := seg_mem.mp hv
                have := y2 j j0 (by omega)
                rw [hui] at this
                exact this
              · rintro ⟨y1, y2⟩
                refine ⟨by omega, fun j j0 j1 => ?_⟩
                rw [hui]
                exact y2 _ (seg_mem.mpr ⟨j, j0, by omega, rfl⟩)
            have : Decidable (N u ≤ 16 ∧ ∀ j, 0 ≤ j → j < N u → 0 ≤ ax_u I a 11 0 u j ∧ ax_u I a 11 0 u j < 100) := Classical.propDecidable _
            have hhl := c_holdsLines (G := G) (T := T) (N := N) (R := R) (z := z) (m := 16) (I := ax_u I a 11 0) (fx_ss hx n hn).2 hit u13 (by omega) (by decide) (fun j j0 j1 => by rw [hui, ur j j0 j1]; exact hMS.2.2.1 _)
            by_cases hok : alP (slL σ o n) 16
            · rw [if_pos hok]
              rw [bI_t (hal.mpr hok)] at hhl
              have hok2 := hal.mpr hok
              by_cases hfull : σ o 2 = 24
              · rw [if_pos hfull]
                refine x_aload_n (pc := 0) hC dX11_commit_0 rfl ?_
                refine x_iconst (pc := 1) hC dX11_commit_1 ?_
                refine x_putI (pc := 2) hC pf_X11_77 dX11_commit_2 (fx_ta hx) (by decide) ?_
                refine x_aload_n (pc := 5) hC dX11_commit_5 rfl ?_
                refine x_iload_n (pc := 6) hC dX11_commit_6 rfl ?_
                refine x_mV (pc := 7) hC cv_X11_81 dX11_commit_7 htp (fx_ta hx) rfl (by decide) rfl rfl (Nat.le_of_ble_eq_true rfl) ?_
                dsimp only [Option.toList, List.cons_append, List.nil_append]
                refine x_astore (pc := 10) hC dX11_commit_10 (Nat.le_of_ble_eq_true rfl) ?_
                dsimp only [List.set]
                refine x_aload_n (pc := 12) hC dX11_commit_12 rfl ?_
                refine x_iload_n (pc := 13) hC dX11_commit_13 rfl ?_
                refine x_mV (pc := 14) hC cv_X11_85 dX11_commit_14 (rl_sa h0 hn) (fx_ta hx) rfl (by decide) rfl rfl (Nat.le_of_ble_eq_true rfl) ?_
                dsimp only [Option.toList, List.cons_append, List.nil_append]
                refine x_astore (pc := 17) hC dX11_commit_17 (Nat.le_of_ble_eq_true rfl) ?_
                dsimp only [List.set]
                refine x_aload (pc := 19) hC dX11_commit_19 rfl ?_
                refine x_ifnull (pc := 21) hC 29 dX11_commit_21 (by decide) (fun h => by cases h) (fun _ _ => ?_)
                refine x_aload (pc := 24) hC dX11_commit_24 rfl ?_
                refine x_ifnonnull (pc := 26) hC 31 dX11_commit_26 (by decide) (fun _ _ => ?_) (fun h => by cases h)
                refine x_iload_n (pc := 31) hC dX11_commit_31 rfl ?_
                refine x_if_lt (pc := 32) hC 40 dX11_commit_32 (by decide) (by omega) (fun b32 => ?_) (fun b32 => ?_)
                · exfalso; omega
                · refine x_iload_n (pc := 35) hC dX11_commit_35 rfl ?_
                  refine x_iconst (pc := 36) hC dX11_commit_36 ?_
                  refine x_icmp_le (pc := 37) hC 43 dX11_commit_37 (by decide) (by omega) (by omega) (fun b37 => ?_) (fun b37 => ?_)
                  · refine x_aload_n (pc := 43) hC dX11_commit_43 rfl ?_
                    refine x_mV (pc := 44) hC cv_X11_89 dX11_commit_44 hu (fx_ta hx) rfl (by decide) rfl rfl (Nat.le_of_ble_eq_true rfl) ?_
                    dsimp only [Option.toList, List.cons_append, List.nil_append]
                    refine x_if_eq (pc := 47) hC 53 dX11_commit_47 (by decide) (by decide) (fun _ => ?_) (fun h => absurd rfl h)
                    refine x_aload (pc := 53) hC dX11_commit_53 rfl ?_
                    refine x_mV (pc := 55) hC cv_X11_93 dX11_commit_55 (c_faultAsBytes (fx_ss hx n hn).2 (by rw [i1]; exact k1) (rl_sc2 h hn)) (fx_ss hx n hn).2 rfl (by decide) rfl rfl (Nat.le_of_ble_eq_true rfl) ?_
                    dsimp only [Option.toList, List.cons_append, List.nil_append]
                    rw [rl_fb h hn i1]
                    rw [if_neg (by omega), if_pos hso]
                    refine x_istore (pc := 58) hC dX11_commit_58 (Nat.le_of_ble_eq_true rfl) ?_
                    dsimp only [List.set]
                    refine x_iload (pc := 60) hC dX11_commit_60 rfl ?_
                    refine x_if_eq (pc := 62) hC 72 dX11_commit_62 (by decide) (by decide) (fun _ => ?_) (fun h => absurd rfl h)
                    refine x_aload (pc := 72) hC dX11_commit_72 rfl ?_
                    refine x_bipush (pc := 74) hC dX11_commit_74 (by decide) ?_
                    refine x_mV (pc := 76) hC cv_X11_101 dX11_commit_76 hhl (fx_ss hx n hn).2 rfl (by decide) rfl rfl (Nat.le_of_ble_eq_true rfl) ?_
                    dsimp only [Option.toList, List.cons_append, List.nil_append]
                    refine x_if_ne (pc := 79) hC 85 dX11_commit_79 (by decide) (by decide) (fun _ => ?_) (fun h => absurd h (by decide))
                    refine x_aload_n (pc := 85) hC dX11_commit_85 rfl ?_
                    refine x_getI (pc := 86) hC gf_X11_105 dX11_commit_86 (fx_ta hx) ?_
                    refine x_bipush (pc := 89) hC dX11_commit_89 (by decide) ?_
                    rw [axu_j (by decide), hn9]
                    refine x_icmp_lt (pc := 91) hC 97 dX11_commit_91 (by decide) (by omega) (by omega) (fun b91 => ?_) (fun b91 => ?_)
                    · exfalso; omega
                    · refine x_bipush (pc := 94) hC dX11_commit_94 (by decide) ?_
                      refine x_iret (pc := 96) hC rfl dX11_commit_96 ?_
                      exact rl_px h 0
                  · exfalso; omega
              · rw [if_neg hfull]
                refine x_aload_n (pc := 0) hC dX11_commit_0 rfl ?_
                refine x_iconst (pc := 1) hC dX11_commit_1 ?_
                refine x_putI (pc := 2) hC pf_X11_77 dX11_commit_2 (fx_ta hx) (by decide) ?_
                refine x_aload_n (pc := 5) hC dX11_commit_5 rfl ?_
                refine x_iload_n (pc := 6) hC dX11_commit_6 rfl ?_
                refine x_mV (pc := 7) hC cv_X11_81 dX11_commit_7 htp (fx_ta hx) rfl (by decide) rfl rfl (Nat.le_of_ble_eq_true rfl) ?_
                dsimp only [Option.toList, List.cons_append, List.nil_append]
                refine x_astore (pc := 10) hC dX11_commit_10 (Nat.le_of_ble_eq_true rfl) ?_
                dsimp only [List.set]
                refine x_aload_n (pc := 12) hC dX11_commit_12 rfl ?_
                refine x_iload_n (pc := 13) hC dX11_commit_13 rfl ?_
                refine x_mV (pc := 14) hC cv_X11_85 dX11_commit_14 (rl_sa h0 hn) (fx_ta hx) rfl (by decide) rfl rfl (Nat.le_of_ble_eq_true rfl) ?_
                dsimp only [Option.toList, List.cons_append, List.nil_append]
                refine x_astore (pc := 17) hC dX11_commit_17 (Nat.le_of_ble_eq_true rfl) ?_
                dsimp only [List.set]
                refine x_aload (pc := 19) hC dX11_commit_19 rfl ?_
                refine x_ifnull (pc := 21) hC 29 dX11_commit_21 (by decide) (fun h => by cases h) (fun _ _ => ?_)
                refine x_aload (pc := 24) hC dX11_commit_24 rfl ?_
                refine x_ifnonnull (pc := 26) hC 31 dX11_commit_26 (by decide) (fun _ _ => ?_) (fun h => by cases h)
                refine x_iload_n (pc := 31) hC dX11_commit_31 rfl ?_
                refine x_if_lt (pc := 32) hC 40 dX11_commit_32 (by decide) (by omega) (fun b32 => ?_) (fun b32 => ?_)
                · exfalso; omega
                · refine x_iload_n (pc := 35) hC dX11_commit_35 rfl ?_
                  refine x_iconst (pc := 36) hC dX11_commit_36 ?_
                  refine x_icmp_le (pc := 37) hC 43 dX11_commit_37 (by decide) (by omega) (by omega) (fun b37 => ?_) (fun b37 => ?_)
                  · refine x_aload_n (pc := 43) hC dX11_commit_43 rfl ?_
                    refine x_mV (pc := 44) hC cv_X11_89 dX11_commit_44 hu (fx_ta hx) rfl (by decide) rfl rfl (Nat.le_of_ble_eq_true rfl) ?_
                    dsimp only [Option.toList, List.cons_append, List.nil_append]
                    refine x_if_eq (pc := 47) hC 53 dX11_commit_47 (by decide) (by decide) (fun _ => ?_) (fun h => absurd rfl h)
                    refine x_aload (pc := 53) hC dX11_commit_53 rfl ?_
                    refine x_mV (pc := 55) hC cv_X11_93 dX11_commit_55 (c_faultAsBytes (fx_ss hx n hn).2 (by rw [i1]; exact k1) (rl_sc2 h hn)) (fx_ss hx n hn).2 rfl (by decide) rfl rfl (Nat.le_of_ble_eq_true rfl) ?_
                    dsimp only [Option.toList, List.cons_append, List.nil_append]
                    rw [rl_fb h hn i1]
                    rw [if_neg (by omega), if_pos hso]
                    refine x_istore (pc := 58) hC dX11_commit_58 (Nat.le_of_ble_eq_true rfl) ?_
                    dsimp only [List.set]
                    refine x_iload (pc := 60) hC dX11_commit_60 rfl ?_
                    refine x_if_eq (pc := 62) hC 72 dX11_commit_62 (by decide) (by decide) (fun _ => ?_) (fun h => absurd rfl h)
                    refine x_aload (pc := 72) hC dX11_commit_72 rfl ?_
                    refine x_bipush (pc := 74) hC dX11_commit_74 (by decide) ?_
                    refine x_mV (pc := 76) hC cv_X11_101 dX11_commit_76 hhl (fx_ss hx n hn).2 rfl (by decide) rfl rfl (Nat.le_of_ble_eq_true rfl) ?_
                    dsimp only [Option.toList, List.cons_append, List.nil_append]
                    refine x_if_ne (pc := 79) hC 85 dX11_commit_79 (by decide) (by decide) (fun _ => ?_) (fun h => absurd h (by decide))
                    refine x_aload_n (pc := 85) hC dX11_commit_85 rfl ?_
                    refine x_getI (pc := 86) hC gf_X11_105 dX11_commit_86 (fx_ta hx) ?_
                    refine x_bipush (pc := 89) hC dX11_commit_89 (by decide) ?_
                    rw [axu_j (by decide), hn9]
                    refine x_icmp_lt (pc := 91) hC 97 dX11_commit_91 (by decide) (by omega) (by omega) (fun b91 => ?_) (fun b91 => ?_)
                    · have h1 : RelA G (ax_n T z 13) (ax_n N z (N u)) (ax_n (ax_u I a 11 0) z (ax_u I a 11 0 u)) (ax_n R z (fun _ => none)) (z + 1) a o (ax_u σ o 0 0) A w := rl_nw h0
                      have hxC := rl_fx h1
                      have t1C : pT (ax_n T z 13 (A (σ (o + 7) b))) := ((rl_cs h1).2 _ ht.1 (by rw [axu_j (by decide)]; exact ht.2)).1
                      have m0 : ax_u σ o 0 0 o 2 = σ o 2 := axu_j (by decide)
                      have ia2 : ax_n (ax_u I a 11 0) z (ax_u I a 11 0 u) a 2 = σ o 2 := by rw [axn_a (by omega), axu_j (by decide)]; exact hn9
                      refine x_aload_n (pc := 97) hC dX11_commit_97 rfl ?_
                      refine x_iload_n (pc := 98) hC dX11_commit_98 rfl ?_
                      refine x_aload (pc := 99) hC dX11_commit_99 rfl ?_
                      refine x_aload (pc := 101) hC dX11_commit_101 rfl ?_
                      refine x_getO (pc := 103) hC gf_X11_108 dX11_commit_103 (fx_ss hx n hn).2 hit ?_
                      refine x_clone (pc := 106) hC cl_X11_111 w_clsame w_clnat w_clinst w_clsel n_clone dX11_commit_106 u13 (by decide) rfl (Nat.le_of_ble_eq_true rfl) (by omega) (by omega) ?_
                      refine x_castI (pc := 109) hC kl_X11_112 dX11_commit_109 axn_s ?_
                      refine x_null (pc := 112) hC dX11_commit_112 ?_
                      refine x_callV (pc := 113) hC cv_X11_116 dX11_commit_113 (c_makeCommit hxC (p := some (A (σ (o + 7) b))) (r := some z) (q := none) hk (by rw [ia2]; omega)) (fx_ta hxC) rfl (by decide) (by omega) (by omega) rfl rfl (Nat.le_of_ble_eq_true rfl) (fun _ _ _ _ _ _ hq => ?_)
                      obtain ⟨rfl, rfl, rfl, rfl, rfl, rfl⟩ := hq
                      dsimp only [Option.toList, List.cons_append, List.nil_append]
                      have hl9 : ∀ c, 0 ≤ ax_u σ o 0 0 (o + 6) c ∧ ax_u σ o 0 0 (o + 6) c ≤ 16 := fun c => by rw [axu_a (by omega)]; exact hI.2.1.2 c
                      obtain ⟨X, hX⟩ : ∃ X, X = (ax_f (ax_u (mdI (ax_u σ o 0 0) o k (σ (o + 7) b) (-9)) (o + 6) (σ o 2) (σ (o + 32) n)) (o + 5) (16 * σ o 2) (σ (o + 32) n) (fun j => σ (o + 33) (24 * (n : Int) + (j - 16 * σ o 2)))) := ⟨_, rfl⟩
                      rw [← hX]
                      have hmd := md_x (σ := ax_u σ o 0 0) (o := o) (k := k) (p := σ (o + 7) b) (g := -9) (n := σ (o + 32) n) (F := fun j => σ (o + 33) (24 * (n : Int) + (j - 16 * σ o 2))) hl9 (by omega) (X := X) (by rw [m0]; exact hX)
                      rw [m0, axu_j (show (1 : Int) ≠ 0 by decide), axu_j (show (3 : Int) ≠ 0 by decide)] at hmd
                      obtain ⟨⟨q1, q2, q3, q4⟩, ⟨q5, q6, q7, q8, q9, q10⟩, q11, q12, q13⟩ := hmd
                      have hPW : PW (X (o + 2)) (σ o 2 + 1) := by
                        have := PW_app hI.2.2.1 (show 0 < σ o 2 by omega) ht.1 ht.2
                        refine ⟨?_, fun x x0 x1 => ?_⟩
                        · rw [(q5 0 (by omega)).2.1, axu_a (by omega)]; exact hI.2.2.1.1
                        · by_cases e : x = σ o 2
                          · rw [e, q7]; exact ⟨ht.1, ht.2⟩
                          · rw [(q5 x e).2.1, axu_a (by omega)]; exact hI.2.2.1.2 x x0 (by omega)
                      have hlen : (((slL σ o n).length : Nat) : Int) = σ (o + 32) n := by rw [← uL, seg_len]; omega
                      have hrw9 : rwS (ax_n T z 13) (ax_n N z (N u)) (ax_n (ax_u I a 11 0) z (ax_u I a 11 0 u)) z := by
                        unfold rwS
                        rw [axn_s, axn_s, axn_s]
                        exact ⟨rfl, by omega, hok2.2⟩
                      have h2 := rl_md (k := k) (g := -9) (X := X) (r := z) (p := some (A (σ (o + 7) b))) (q := none) (L := slL σ o n) h1 (miS_f hMS) (by rw [m0]; omega) hk (Or.inl rfl) (by rw [if_pos rfl]) (by rw [m0, if_neg (by omega), q7]) (by rw [m0]; exact hPW) hrw9 ⟨by rw [axn_s, hlen]; exact uN, by rw [axn_s, hlen, show ax_u I a 11 0 u = I u from axu_row une]; exact uL⟩ (Or.inr (by omega)) (fun s hs h9 => by
                        rw [axn_a (by omega)] at h9
                        obtain ⟨⟨y1, -⟩, -⟩ := rl_ar h hMS hs z h9
                        have := fx_tz hx z (by omega)
                        omega) (by rw [m0]; exact q1) (by rw [axu_j (by decide)]; exact q2) (fun j hj => q4 j (by omega) (by omega) (by omega)) (fun c hc => by rw [m0] at hc; exact (q5 c hc).1) (by rw [m0]; exact q6) (fun c hc => by rw [m0] at hc; exact (q5 c hc).2.1) (fun c hc => by rw [m0] at hc; exact (q5 c hc).2.2.1) (by rw [m0]; exact q8) (fun c hc => by rw [m0] at hc; exact (q5 c hc).2.2.2.1) (by rw [m0, axu_j (by decide)]; exact q9) (fun c hc => by rw [m0] at hc; exact (q5 c hc).2.2.2.2) (by rw [m0, hlen]; exact q10) (fun c c0 c1 => by rw [m0] at c1; exact q11 c (by omega)) (by
                          rw [m0, q12]
                          unfold slL
                          exact seg_shift (by omega) (fun j j0 j1 => by congr 1; omega)) (fun x hx9 _ => q13 x hx9) (fun d d0 d1 => by rw [m0, t7]; have := hI.2.2.2.2.1 d d0 d1; omega) (fun j j0 j1 => by rw [q13 _ (by omega)]) (fun h9 => absurd (by rw [q4 40 (by decide) (by decide) (by decide), axu_j (by decide)]; exact h40) h9)
                      have hxD := rl_fx h2
                      rw [m0] at h2
                      refine x_astore (pc := 116) hC dX11_commit_116 (Nat.le_of_ble_eq_true rfl) ?_
                      dsimp only [List.set]
                      refine x_aload_n (pc := 118) hC dX11_commit_118 rfl ?_
                      refine x_getO (pc := 119) hC gf_X11_24 dX11_commit_119 (fx_ta hxD) (fx_tp hxD).1 ?_
                      refine x_iload_n (pc := 122) hC dX11_commit_122 rfl ?_
                      refine x_aload (pc := 123) hC dX11_commit_123 rfl ?_
                      refine x_aast (pc := 125) hC axEl_15 dX11_commit_125 (fx_tp hxD).2.1 (by omega) (by rw [(fx_tp hxD).2.2]; omega) (fun v hv => by cases hv; rw [axn_s]; exact axTakes_5 (tgK_p k)) ?_
                      refine x_aload (pc := 126) hC dX11_commit_126 rfl ?_
                      refine x_getI (pc := 128) hC (gp_X11_120 (by rw [axn_s]; exact tgK_p k)) dX11_commit_128 rfl ?_
                      refine x_iret (pc := 131) hC rfl dX11_commit_131 ?_
                      rw [show mkI (ax_n (ax_u I a 11 0) z (ax_u I a 11 0 u)) (z + 1) a k none (z + 1) 1 = σ o 2 by unfold mkI; rw [axu_a (by omega), axu_a (by omega), axu_s, ia2]]
                      refine ⟨rfl, ?_, by omega, _, _, rl_gen h2 (fun _ _ _ _ => rfl) (fun _ _ => rfl) (by rw [axu_a (by omega)]; exact rl_f h2) (by rw [axu_a (by omega)]; exact rl_t h2) (fun x e1 e2 => axu_row e1) (fun j e0 e1 e3 => axu_a (by omega)) (fun x e1 e2 e3 => axu_row e2) (fun d d0 d1 => ?_) ?_ (fun j v a1 a2 hv => by rw [axu_row (by omega)] at hv; exact (rl_r7 h2).1 j v a1 a2 hv) (fun h9 => absurd (by rw [q4 40 (by decide) (by decide) (by decide), axu_j (by decide)]; exact h40) h9)⟩
                      · refine (fro_f (f := 0) (by omega)).tr ((fro_nw b1 b2).tr ((fro_md (t := tgK k) b1 (by omega)).tr (fun x hx9 => ⟨rfl, rfl, rfl, axu_row (by omega)⟩)))
                      · by_cases e : d = b
                        · rw [e, axu_s, axu_s, if_pos rfl]
                        · rw [axu_j e, axu_j e]; exact rl_tp h2 d d0 d1
                      · have e : rsL (ax_u X (o + 7) b (σ o 2)) o = rsL X o := rsL_eq (axu_a (by omega)) (axu_row (by omega)) (axu_row (by omega)) (axu_row (by omega)) (axu_row (by omega))
                        rw [e]
                        refine ⟨(rl_rs h2).1, (rl_rs h2).2.1, fun j l hl => ?_⟩
                        rw [axu_row (show a + 6 ≠ a + 3 by omega)]
                        exact (rl_rs h2).2.2 j l hl
                    · exfalso; omega
                  · exfalso; omega
            · rw [if_neg hok]
              rw [bI_f (fun h9 => hok (hal.mp h9))] at hhl
              refine x_aload_n (pc := 0) hC dX11_commit_0 rfl ?_
              refine x_iconst (pc := 1) hC dX11_commit_1 ?_
              refine x_putI (pc := 2) hC pf_X11_77 dX11_commit_2 (fx_ta hx) (by decide) ?_
              refine x_aload_n (pc := 5) hC dX11_commit_5 rfl ?_
              refine x_iload_n (pc := 6) hC dX11_commit_6 rfl ?_
              refine x_mV (pc := 7) hC cv_X11_81 dX11_commit_7 htp (fx_ta hx) rfl (by decide) rfl rfl (Nat.le_of_ble_eq_true rfl) ?_
              dsimp only [Option.toList, List.cons_append, List.nil_append]
              refine x_astore (pc := 10) hC dX11_commit_10 (Nat.le_of_ble_eq_true rfl) ?_
              dsimp only [List.set]
              refine x_aload_n (pc := 12) hC dX11_commit_12 rfl ?_
              refine x_iload_n (pc := 13) hC dX11_commit_13 rfl ?_
              refine x_mV (pc := 14) hC cv_X11_85 dX11_commit_14 (rl_sa h0 hn) (fx_ta hx) rfl (by decide) rfl rfl (Nat.le_of_ble_eq_true rfl) ?_
              dsimp only [Option.toList, List.cons_append, List.nil_append]
              refine x_astore (pc := 17) hC dX11_commit_17 (Nat.le_of_ble_eq_true rfl) ?_
              dsimp only [List.set]
              refine x_aload (pc := 19) hC dX11_commit_19 rfl ?_
              refine x_ifnull (pc := 21) hC 29 dX11_commit_21 (by decide) (fun h => by cases h) (fun _ _ => ?_)
              refine x_aload (pc := 24) hC dX11_commit_24 rfl ?_
              refine x_ifnonnull (pc := 26) hC 31 dX11_commit_26 (by decide) (fun _ _ => ?_) (fun h => by cases h)
              refine x_iload_n (pc := 31) hC dX11_commit_31 rfl ?_
              refine x_if_lt (pc := 32) hC 40 dX11_commit_32 (by decide) (by omega) (fun b32 => ?_) (fun b32 => ?_)
              · exfalso; omega
              · refine x_iload_n (pc := 35) hC dX11_commit_35 rfl ?_
                refine x_iconst (pc := 36) hC dX11_commit_36 ?_
                refine x_icmp_le (pc := 37) hC 43 dX11_commit_37 (by decide) (by omega) (by omega) (fun b37 => ?_) (fun b37 => ?_)
                · refine x_aload_n (pc := 43) hC dX11_commit_43 rfl ?_
                  refine x_mV (pc := 44) hC cv_X11_89 dX11_commit_44 hu (fx_ta hx) rfl (by decide) rfl rfl (Nat.le_of_ble_eq_true rfl) ?_
                  dsimp only [Option.toList, List.cons_append, List.nil_append]
                  refine x_if_eq (pc := 47) hC 53 dX11_commit_47 (by decide) (by decide) (fun _ => ?_) (fun h => absurd rfl h)
                  refine x_aload (pc := 53) hC dX11_commit_53 rfl ?_
                  refine x_mV (pc := 55) hC cv_X11_93 dX11_commit_55 (c_faultAsBytes (fx_ss hx n hn).2 (by rw [i1]; exact k1) (rl_sc2 h hn)) (fx_ss hx n hn).2 rfl (by decide) rfl rfl (Nat.le_of_ble_eq_true rfl) ?_
                  dsimp only [Option.toList, List.cons_append, List.nil_append]
                  rw [rl_fb h hn i1]
                  rw [if_neg (by omega), if_pos hso]
                  refine x_istore (pc := 58) hC dX11_commit_58 (Nat.le_of_ble_eq_true rfl) ?_
                  dsimp only [List.set]
                  refine x_iload (pc := 60) hC dX11_commit_60 rfl ?_
                  refine x_if_eq (pc := 62) hC 72 dX11_commit_62 (by decide) (by decide) (fun _ => ?_) (fun h => absurd rfl h)
                  refine x_aload (pc := 72) hC dX11_commit_72 rfl ?_
                  refine x_bipush (pc := 74) hC dX11_commit_74 (by decide) ?_
                  refine x_mV (pc := 76) hC cv_X11_101 dX11_commit_76 hhl (fx_ss hx n hn).2 rfl (by decide) rfl rfl (Nat.le_of_ble_eq_true rfl) ?_
                  dsimp only [Option.toList, List.cons_append, List.nil_append]
                  refine x_if_ne (pc := 79) hC 85 dX11_commit_79 (by decide) (by decide) (fun h => absurd rfl h) (fun _ => ?_)
                  refine x_bipush (pc := 82) hC dX11_commit_82 (by decide) ?_
                  refine x_iret (pc := 84) hC rfl dX11_commit_84 ?_
                  exact rl_px h 0
                · exfalso; omega
          · by_cases hs9 : σ (o + 31) n = -9
            · rw [if_pos (show σ (o + 31) n ≤ 0 by omega), if_pos hs9, axu_uu]
              refine x_aload_n (pc := 0) hC dX11_commit_0 rfl ?_
              refine x_iconst (pc := 1) hC dX11_commit_1 ?_
              refine x_putI (pc := 2) hC pf_X11_77 dX11_commit_2 (fx_ta hx) (by decide) ?_
              refine x_aload_n (pc := 5) hC dX11_commit_5 rfl ?_
              refine x_iload_n (pc := 6) hC dX11_commit_6 rfl ?_
              refine x_mV (pc := 7) hC cv_X11_81 dX11_commit_7 htp (fx_ta hx) rfl (by decide) rfl rfl (Nat.le_of_ble_eq_true rfl) ?_
              dsimp only [Option.toList, List.cons_append, List.nil_append]
              refine x_astore (pc := 10) hC dX11_commit_10 (Nat.le_of_ble_eq_true rfl) ?_
              dsimp only [List.set]
              refine x_aload_n (pc := 12) hC dX11_commit_12 rfl ?_
              refine x_iload_n (pc := 13) hC dX11_commit_13 rfl ?_
              refine x_mV (pc := 14) hC cv_X11_85 dX11_commit_14 (rl_sa h0 hn) (fx_ta hx) rfl (by decide) rfl rfl (Nat.le_of_ble_eq_true rfl) ?_
              dsimp only [Option.toList, List.cons_append, List.nil_append]
              refine x_astore (pc := 17) hC dX11_commit_17 (Nat.le_of_ble_eq_true rfl) ?_
              dsimp only [List.set]
              refine x_aload (pc := 19) hC dX11_commit_19 rfl ?_
              refine x_ifnull (pc := 21) hC 29 dX11_commit_21 (by decide) (fun h => by cases h) (fun _ _ => ?_)
              refine x_aload (pc := 24) hC dX11_commit_24 rfl ?_
              refine x_ifnonnull (pc := 26) hC 31 dX11_commit_26 (by decide) (fun _ _ => ?_) (fun h => by cases h)
              refine x_iload_n (pc := 31) hC dX11_commit_31 rfl ?_
              refine x_if_lt (pc := 32) hC 40 dX11_commit_32 (by decide) (by omega) (fun b32 => ?_) (fun b32 => ?_)
              · exfalso; omega
              · refine x_iload_n (pc := 35) hC dX11_commit_35 rfl ?_
                refine x_iconst (pc := 36) hC dX11_commit_36 ?_
                refine x_icmp_le (pc := 37) hC 43 dX11_commit_37 (by decide) (by omega) (by omega) (fun b37 => ?_) (fun b37 => ?_)
                · refine x_aload_n (pc := 43) hC dX11_commit_43 rfl ?_
                  refine x_mV (pc := 44) hC cv_X11_89 dX11_commit_44 hu (fx_ta hx) rfl (by decide) rfl rfl (Nat.le_of_ble_eq_true rfl) ?_
                  dsimp only [Option.toList, List.cons_append, List.nil_append]
                  refine x_if_eq (pc := 47) hC 53 dX11_commit_47 (by decide) (by decide) (fun _ => ?_) (fun h => absurd rfl h)
                  refine x_aload (pc := 53) hC dX11_commit_53 rfl ?_
                  refine x_mV (pc := 55) hC cv_X11_93 dX11_commit_55 (c_faultAsBytes (fx_ss hx n hn).2 (by rw [i1]; exact k1) (rl_sc2 h hn)) (fx_ss hx n hn).2 rfl (by decide) rfl rfl (Nat.le_of_ble_eq_true rfl) ?_
                  dsimp only [Option.toList, List.cons_append, List.nil_append]
                  rw [rl_fb h hn i1]
                  rw [if_pos hs9]
                  refine x_istore (pc := 58) hC dX11_commit_58 (Nat.le_of_ble_eq_true rfl) ?_
                  dsimp only [List.set]
                  refine x_iload (pc := 60) hC dX11_commit_60 rfl ?_
                  refine x_if_eq (pc := 62) hC 72 dX11_commit_62 (by decide) (by decide) (fun h => absurd h (by decide)) (fun _ => ?_)
                  refine x_aload_n (pc := 65) hC dX11_commit_65 rfl ?_
                  refine x_iload (pc := 66) hC dX11_commit_66 rfl ?_
                  refine x_mV (pc := 68) hC cv_X11_97 dX11_commit_68 (c_failBy hx) (fx_ta hx) rfl (by decide) rfl rfl (Nat.le_of_ble_eq_true rfl) ?_
                  dsimp only [Option.toList, List.cons_append, List.nil_append]
                  refine x_iret (pc := 71) hC rfl dX11_commit_71 ?_
                  rw [axu_uu]
                  exact rl_px h 1
                · exfalso; omega
            · have hge : ¬ σ (o + 31) n ≤ 0 := by clear k3 k4 k5; omega
              rw [if_neg hge, axu_uu]
              refine x_aload_n (pc := 0) hC dX11_commit_0 rfl ?_
              refine x_iconst (pc := 1) hC dX11_commit_1 ?_
              refine x_putI (pc := 2) hC pf_X11_77 dX11_commit_2 (fx_ta hx) (by decide) ?_
              refine x_aload_n (pc := 5) hC dX11_commit_5 rfl ?_
              refine x_iload_n (pc := 6) hC dX11_commit_6 rfl ?_
              refine x_mV (pc := 7) hC cv_X11_81 dX11_commit_7 htp (fx_ta hx) rfl (by decide) rfl rfl (Nat.le_of_ble_eq_true rfl) ?_
              dsimp only [Option.toList, List.cons_append, List.nil_append]
              refine x_astore (pc := 10) hC dX11_commit_10 (Nat.le_of_ble_eq_true rfl) ?_
              dsimp only [List.set]
              refine x_aload_n (pc := 12) hC dX11_commit_12 rfl ?_
              refine x_iload_n (pc := 13) hC dX11_commit_13 rfl ?_
              refine x_mV (pc := 14) hC cv_X11_85 dX11_commit_14 (rl_sa h0 hn) (fx_ta hx) rfl (by decide) rfl rfl (Nat.le_of_ble_eq_true rfl) ?_
              dsimp only [Option.toList, List.cons_append, List.nil_append]
              refine x_astore (pc := 17) hC dX11_commit_17 (Nat.le_of_ble_eq_true rfl) ?_
              dsimp only [List.set]
              refine x_aload (pc := 19) hC dX11_commit_19 rfl ?_
              refine x_ifnull (pc := 21) hC 29 dX11_commit_21 (by decide) (fun h => by cases h) (fun _ _ => ?_)
              refine x_aload (pc := 24) hC dX11_commit_24 rfl ?_
              refine x_ifnonnull (pc := 26) hC 31 dX11_commit_26 (by decide) (fun _ _ => ?_) (fun h => by cases h)
              refine x_iload_n (pc := 31) hC dX11_commit_31 rfl ?_
              refine x_if_lt (pc := 32) hC 40 dX11_commit_32 (by decide) (by omega) (fun b32 => ?_) (fun b32 => ?_)
              · exfalso; omega
              · refine x_iload_n (pc := 35) hC dX11_commit_35 rfl ?_
                refine x_iconst (pc := 36) hC dX11_commit_36 ?_
                refine x_icmp_le (pc := 37) hC 43 dX11_commit_37 (by decide) (by omega) (by omega) (fun b37 => ?_) (fun b37 => ?_)
                · refine x_aload_n (pc := 43) hC dX11_commit_43 rfl ?_
                  refine x_mV (pc := 44) hC cv_X11_89 dX11_commit_44 hu (fx_ta hx) rfl (by decide) rfl rfl (Nat.le_of_ble_eq_true rfl) ?_
                  dsimp only [Option.toList, List.cons_append, List.nil_append]
                  refine x_if_eq (pc := 47) hC 53 dX11_commit_47 (by decide) (by decide) (fun _ => ?_) (fun h => absurd rfl h)
                  refine x_aload (pc := 53) hC dX11_commit_53 rfl ?_
                  refine x_mV (pc := 55) hC cv_X11_93 dX11_commit_55 (c_faultAsBytes (fx_ss hx n hn).2 (by rw [i1]; exact k1) (rl_sc2 h hn)) (fx_ss hx n hn).2 rfl (by decide) rfl rfl (Nat.le_of_ble_eq_true rfl) ?_
                  dsimp only [Option.toList, List.cons_append, List.nil_append]
                  rw [rl_fb h hn i1]
                  rw [if_neg hs9, if_neg hso]
                  refine x_istore (pc := 58) hC dX11_commit_58 (Nat.le_of_ble_eq_true rfl) ?_
                  dsimp only [List.set]
                  refine x_iload (pc := 60) hC dX11_commit_60 rfl ?_
                  refine x_if_eq (pc := 62) hC 72 dX11_commit_62 (by decide) (by decide) (fun h => absurd h (by decide)) (fun _ => ?_)
                  refine x_aload_n (pc := 65) hC dX11_commit_65 rfl ?_
                  refine x_iload (pc := 66) hC dX11_commit_66 rfl ?_
                  refine x_mV (pc := 68) hC cv_X11_97 dX11_commit_68 (c_failBy hx) (fx_ta hx) rfl (by decide) rfl rfl (Nat.le_of_ble_eq_true rfl) ?_
                  dsimp only [Option.toList, List.cons_append, List.nil_append]
                  refine x_iret (pc := 71) hC rfl dX11_commit_71 ?_
                  rw [axu_uu]
                  exact rl_px h 2
                · exfalso; omega
        · rw [if_neg h40]
          rw [bI_t (show ax_u I a 11 0 (a + 183) 8 ≠ 0 by rw [e8]; exact h40)] at hu
          refine x_aload_n (pc := 0) hC dX11_commit_0 rfl ?_
          refine x_iconst (pc := 1) hC dX11_commit_1 ?_
          refine x_putI (pc := 2) hC pf_X11_77 dX11_commit_2 (fx_ta hx) (by decide) ?_
          refine x_aload_n (pc := 5) hC dX11_commit_5 rfl ?_
          refine x_iload_n (pc := 6) hC dX11_commit_6 rfl ?_
          refine x_mV (pc := 7) hC cv_X11_81 dX11_commit_7 htp (fx_ta hx) rfl (by decide) rfl rfl (Nat.le_of_ble_eq_true rfl) ?_
          dsimp only [Option.toList, List.cons_append, List.nil_append]
          refine x_astore (pc := 10) hC dX11_commit_10 (Nat.le_of_ble_eq_true rfl) ?_
          dsimp only [List.set]
          refine x_aload_n (pc := 12) hC dX11_commit_12 rfl ?_
          refine x_iload_n (pc := 13) hC dX11_commit_13 rfl ?_
          refine x_mV (pc := 14) hC cv_X11_85 dX11_commit_14 (rl_sa h0 hn) (fx_ta hx) rfl (by decide) rfl rfl (Nat.le_of_ble_eq_true rfl) ?_
          dsimp only [Option.toList, List.cons_append, List.nil_append]
          refine x_astore (pc := 17) hC dX11_commit_17 (Nat.le_of_ble_eq_true rfl) ?_
          dsimp only [List.set]
          refine x_aload (pc := 19) hC dX11_commit_19 rfl ?_
          refine x_ifnull (pc := 21) hC 29 dX11_commit_21 (by decide) (fun h => by cases h) (fun _ _ => ?_)
          refine x_aload (pc := 24) hC dX11_commit_24 rfl ?_
          refine x_ifnonnull (pc := 26) hC 31 dX11_commit_26 (by decide) (fun _ _ => ?_) (fun h => by cases h)
          refine x_iload_n (pc := 31) hC dX11_commit_31 rfl ?_
          refine x_if_lt (pc := 32) hC 40 dX11_commit_32 (by decide) (by omega) (fun b32 => ?_) (fun b32 => ?_)
          · exfalso; omega
          · refine x_iload_n (pc := 35) hC dX11_commit_35 rfl ?_
            refine x_iconst (pc := 36) hC dX11_commit_36 ?_
            refine x_icmp_le (pc := 37) hC 43 dX11_commit_37 (by decide) (by omega) (by omega) (fun b37 => ?_) (fun b37 => ?_)
            · refine x_aload_n (pc := 43) hC dX11_commit_43 rfl ?_
              refine x_mV (pc := 44) hC cv_X11_89 dX11_commit_44 hu (fx_ta hx) rfl (by decide) rfl rfl (Nat.le_of_ble_eq_true rfl) ?_
              dsimp only [Option.toList, List.cons_append, List.nil_append]
              refine x_if_eq (pc := 47) hC 53 dX11_commit_47 (by decide) (by decide) (fun h => absurd h (by decide)) (fun _ => ?_)
              refine x_bipush (pc := 50) hC dX11_commit_50 (by decide) ?_
              refine x_iret (pc := 52) hC rfl dX11_commit_52 ?_
              exact rl_px h 0
            · exfalso; omega
      · rw [if_neg hk]
        refine x_aload_n (pc := 0) hC dX11_commit_0 rfl ?_
        refine x_iconst (pc := 1) hC dX11_commit_1 ?_
        refine x_putI (pc := 2) hC pf_X11_77 dX11_commit_2 (fx_ta hx) (by decide) ?_
        refine x_aload_n (pc := 5) hC dX11_commit_5 rfl ?_
        refine x_iload_n (pc := 6) hC dX11_commit_6 rfl ?_
        refine x_mV (pc := 7) hC cv_X11_81 dX11_commit_7 htp (fx_ta hx) rfl (by decide) rfl rfl (Nat.le_of_ble_eq_true rfl) ?_
        dsimp only [Option.toList, List.cons_append, List.nil_append]
        refine x_astore (pc := 10) hC dX11_commit_10 (Nat.le_of_ble_eq_true rfl) ?_
        dsimp only [List.set]
        refine x_aload_n (pc := 12) hC dX11_commit_12 rfl ?_
        refine x_iload_n (pc := 13) hC dX11_commit_13 rfl ?_
        refine x_mV (pc := 14) hC cv_X11_85 dX11_commit_14 (rl_sa h0 hn) (fx_ta hx) rfl (by decide) rfl rfl (Nat.le_of_ble_eq_true rfl) ?_
        dsimp only [Option.toList, List.cons_append, List.nil_append]
        refine x_astore (pc := 17) hC dX11_commit_17 (Nat.le_of_ble_eq_true rfl) ?_
        dsimp only [List.set]
        refine x_aload (pc := 19) hC dX11_commit_19 rfl ?_
        refine x_ifnull (pc := 21) hC 29 dX11_commit_21 (by decide) (fun h => by cases h) (fun _ _ => ?_)
        refine x_aload (pc := 24) hC dX11_commit_24 rfl ?_
        refine x_ifnonnull (pc := 26) hC 31 dX11_commit_26 (by decide) (fun _ _ => ?_) (fun h => by cases h)
        refine x_iload_n (pc := 31) hC dX11_commit_31 rfl ?_
        refine x_if_lt (pc := 32) hC 40 dX11_commit_32 (by decide) (by omega) (fun b32 => ?_) (fun b32 => ?_)
        · refine x_bipush (pc := 40) hC dX11_commit_40 (by decide) ?_
          refine x_iret (pc := 42) hC rfl dX11_commit_42 ?_
          exact rl_px h 0
        · refine x_iload_n (pc := 35) hC dX11_commit_35 rfl ?_
          refine x_iconst (pc := 36) hC dX11_commit_36 ?_
          refine x_icmp_le (pc := 37) hC 43 dX11_commit_37 (by decide) (by omega) (by omega) (fun b37 => ?_) (fun b37 => ?_)
          · exfalso; omega
          · refine x_bipush (pc := 40) hC dX11_commit_40 (by decide) ?_
            refine x_iret (pc := 42) hC rfl dX11_commit_42 ?_
            exact rl_px h 0
    · rw [if_neg (fun h9 => hs5 h9.2)]
      refine x_aload_n (pc := 0) hC dX11_commit_0 rfl ?_
      refine x_iconst (pc := 1) hC dX11_commit_1 ?_
      refine x_putI (pc := 2) hC pf_X11_77 dX11_commit_2 (fx_ta hx) (by decide) ?_
      refine x_aload_n (pc := 5) hC dX11_commit_5 rfl ?_
      refine x_iload_n (pc := 6) hC dX11_commit_6 rfl ?_
      refine x_mV (pc := 7) hC cv_X11_81 dX11_commit_7 htp (fx_ta hx) rfl (by decide) rfl rfl (Nat.le_of_ble_eq_true rfl) ?_
      dsimp only [Option.toList, List.cons_append, List.nil_append]
      refine x_astore (pc := 10) hC dX11_commit_10 (Nat.le_of_ble_eq_true rfl) ?_
      dsimp only [List.set]
      refine x_aload_n (pc := 12) hC dX11_commit_12 rfl ?_
      refine x_iload_n (pc := 13) hC dX11_commit_13 rfl ?_
      refine x_mV (pc := 14) hC cv_X11_85 dX11_commit_14 (rl_ns h0 rs hs5) (fx_ta hx) rfl (by decide) rfl rfl (Nat.le_of_ble_eq_true rfl) ?_
      dsimp only [Option.toList, List.cons_append, List.nil_append]
      refine x_astore (pc := 17) hC dX11_commit_17 (Nat.le_of_ble_eq_true rfl) ?_
      dsimp only [List.set]
      refine x_aload (pc := 19) hC dX11_commit_19 rfl ?_
      refine x_ifnull (pc := 21) hC 29 dX11_commit_21 (by decide) (fun h => by cases h) (fun _ _ => ?_)
      refine x_aload (pc := 24) hC dX11_commit_24 rfl ?_
      refine x_ifnonnull (pc := 26) hC 31 dX11_commit_26 (by decide) (fun _ h => by cases h) (fun _ => ?_)
      refine x_iconst (pc := 29) hC dX11_commit_29 ?_
      refine x_iret (pc := 30) hC rfl dX11_commit_30 ?_
      exact rl_px h 0
  · rw [if_neg (fun h9 => hb4 h9.1)]
    refine x_aload_n (pc := 0) hC dX11_commit_0 rfl ?_
    refine x_iconst (pc := 1) hC dX11_commit_1 ?_
    refine x_putI (pc := 2) hC pf_X11_77 dX11_commit_2 (fx_ta hx) (by decide) ?_
    refine x_aload_n (pc := 5) hC dX11_commit_5 rfl ?_
    refine x_iload_n (pc := 6) hC dX11_commit_6 rfl ?_
    refine x_mV (pc := 7) hC cv_X11_81 dX11_commit_7 (rl_nt h0 rb hb4) (fx_ta hx) rfl (by decide) rfl rfl (Nat.le_of_ble_eq_true rfl) ?_
    dsimp only [Option.toList, List.cons_append, List.nil_append]
    refine x_astore (pc := 10) hC dX11_commit_10 (Nat.le_of_ble_eq_true rfl) ?_
    dsimp only [List.set]
    refine x_aload_n (pc := 12) hC dX11_commit_12 rfl ?_
    refine x_iload_n (pc := 13) hC dX11_commit_13 rfl ?_
    refine x_mV (pc := 14) hC cv_X11_85 dX11_commit_14 (c_slotAt hx (c := s) rs) (fx_ta hx) rfl (by decide) rfl rfl (Nat.le_of_ble_eq_true rfl) ?_
    dsimp only [Option.toList, List.cons_append, List.nil_append]
    refine x_astore (pc := 17) hC dX11_commit_17 (Nat.le_of_ble_eq_true rfl) ?_
    dsimp only [List.set]
    refine x_aload (pc := 19) hC dX11_commit_19 rfl ?_
    refine x_ifnull (pc := 21) hC 29 dX11_commit_21 (by decide) (fun _ => ?_) (fun _ h => by cases h)
    refine x_iconst (pc := 29) hC dX11_commit_29 ?_
    refine x_iret (pc := 30) hC rfl dX11_commit_30 ?_
    exact rl_px h 0

