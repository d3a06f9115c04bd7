/-! THE CLASS: copy -/
theorem rl_n2 {G : ax_G} {T : Nat → Nat} {N : Nat → Int} {I : Nat → Int → Int} {R : Nat → Int → Option Nat} {z a o : Nat} {σ : Nat → Int → Int} {A w : Int → Nat} (h : RelA G T N I R z a o σ A w) {n : Nat} (hn : n < 5) (h0 : R (a + 177 + n) 0 = none) (h9 : σ (o + 31) n ≠ -9) : σ (o + 31) n = 2 := by
  obtain ⟨k1, k2, k3, k4, k5⟩ := rl_sl h n hn
  rcases k2 with e | e | e | e
  · exact absurd e h9
  · obtain ⟨-, -, u, hu, -⟩ := k4 (Or.inl e); rw [h0] at hu; cases hu
  · obtain ⟨-, -, u, hu, -⟩ := k4 (Or.inr e); rw [h0] at hu; cases hu
  · exact e

set_option maxHeartbeats 4000000 in
set_option maxRecDepth 100000 in
theorem c_copy {G : ax_G} {T : Nat → Nat} {N : Nat → Int} {I : Nat → Int → Int} {R : Nat → Int → Option Nat} {z a o : Nat} {σ : Nat → Int → Int} {A w : Int → Nat} (h : RelA G T N I R z a o σ A w) (hI : miC σ o) (hMS : miS σ o) {s i d j k : Int} (rs : ax_r s) (ri : ax_r i) (rd : ax_r d) (rj : ax_r j) (rk : ax_r k) : axM G YX11_copy 1 [vR a, vI s, vI i, vI d, vI j, vI k] T N I R z 0 0 (rPX G T N I R z a o (vI (cp σ o s i d j k).1) (cp σ o s i d j k).2) := by
  refine ax_enter (by decide) (Nat.le_of_ble_eq_true rfl) (ax_cat rfl) (fun f hC => ?_)
  show axX G f 0 0 _ 0 [vR a, vI s, vI i, vI d, vI j, vI k, vU, vU] [] T N I R z 0 0
  have hx := rl_fx h
  have b0 := fx_b0 hx
  have b1 := fx_b1 hx
  unfold cp
  by_cases hs5 : 0 ≤ s ∧ s < 5
  · by_cases hd5 : 0 ≤ d ∧ d < 5
    · obtain ⟨n1, rfl⟩ : ∃ n : Nat, s = n := ⟨s.toNat, by omega⟩
      obtain ⟨n2, rfl⟩ : ∃ n : Nat, d = n := ⟨d.toNat, by omega⟩
      have h1 : n1 < 5 := by omega
      have h2 : n2 < 5 := by omega
      have em1 := rl_em h h1
      have em2 := rl_em h h2
      have i1 : ax_u I a 11 0 (a + 177 + n1) 1 = I (a + 177 + n1) 1 := axu_a (by omega)
      have i2 : ax_u I a 11 0 (a + 177 + n2) 1 = I (a + 177 + n2) 1 := axu_a (by omega)
      have r1 : ax_r (I (a + 177 + n1) 1) := by rcases (rl_sl h n1 h1).1 with e | e <;> rw [e] <;> decide
      have r2 : ax_r (I (a + 177 + n2) 1) := by rcases (rl_sl h n2 h2).1 with e | e <;> rw [e] <;> decide
      rw [if_pos ⟨hs5, hd5⟩]
      by_cases hE : σ (o + 31) n1 = -9 ∨ σ (o + 31) n2 = -9
      · rw [if_pos hE]
        refine x_aload_n (pc := 0) hC dX11_copy_0 rfl ?_
        refine x_iconst (pc := 1) hC dX11_copy_1 ?_
        refine x_putI (pc := 2) hC pf_X11_77 dX11_copy_2 (fx_ta hx) (by decide) ?_
        refine x_aload_n (pc := 5) hC dX11_copy_5 rfl ?_
        refine x_iload_n (pc := 6) hC dX11_copy_6 rfl ?_
        refine x_mV (pc := 7) hC cv_X11_85 dX11_copy_7 (rl_sa h h1) (fx_ta hx) rfl (by decide) rfl rfl (Nat.le_of_ble_eq_true rfl) ?_
        dsimp only [Option.toList, List.cons_append, List.nil_append]
        refine x_astore (pc := 10) hC dX11_copy_10 (Nat.le_of_ble_eq_true rfl) ?_
        dsimp only [List.set]
        refine x_aload_n (pc := 12) hC dX11_copy_12 rfl ?_
        refine x_iload_n (pc := 13) hC dX11_copy_13 rfl ?_
        refine x_mV (pc := 14) hC cv_X11_85 dX11_copy_14 (rl_sa h h2) (fx_ta hx) rfl (by decide) rfl rfl (Nat.le_of_ble_eq_true rfl) ?_
        dsimp only [Option.toList, List.cons_append, List.nil_append]
        refine x_astore (pc := 17) hC dX11_copy_17 (Nat.le_of_ble_eq_true rfl) ?_
        dsimp only [List.set]
        refine x_aload (pc := 19) hC dX11_copy_19 rfl ?_
        refine x_ifnull (pc := 21) hC 29 dX11_copy_21 (by decide) (fun h => by cases h) (fun _ _ => ?_)
        refine x_aload (pc := 24) hC dX11_copy_24 rfl ?_
        refine x_ifnonnull (pc := 26) hC 31 dX11_copy_26 (by decide) (fun _ _ => ?_) (fun h => by cases h)
        refine x_aload (pc := 31) hC dX11_copy_31 rfl ?_
        refine x_mV (pc := 33) hC cv_X11_328 dX11_copy_33 (c_isEmpty (fx_ss hx n1 h1).2) (fx_ss hx n1 h1).2 rfl (by decide) rfl rfl (Nat.le_of_ble_eq_true rfl) ?_
        dsimp only [Option.toList, List.cons_append, List.nil_append]
        refine x_ifB_ne (pc := 36) hC 47 dX11_copy_36 (by decide) (fun b36 => ?_) (fun b36 => ?_)
        · refine x_aload_n (pc := 47) hC dX11_copy_47 rfl ?_
          refine x_iconst (pc := 48) hC dX11_copy_48 ?_
          refine x_mV (pc := 49) hC cv_X11_97 dX11_copy_49 (c_failBy hx) (fx_ta hx) rfl (by decide) rfl rfl (Nat.le_of_ble_eq_true rfl) ?_
          dsimp only [Option.toList, List.cons_append, List.nil_append]
          refine x_iret (pc := 52) hC rfl dX11_copy_52 ?_
          rw [axu_uu]
          exact rl_px h 1
        · refine x_aload (pc := 39) hC dX11_copy_39 rfl ?_
          refine x_mV (pc := 41) hC cv_X11_328 dX11_copy_41 (c_isEmpty (fx_ss hx n2 h2).2) (fx_ss hx n2 h2).2 rfl (by decide) rfl rfl (Nat.le_of_ble_eq_true rfl) ?_
          dsimp only [Option.toList, List.cons_append, List.nil_append]
          refine x_ifB_eq (pc := 44) hC 53 dX11_copy_44 (by decide) (fun b44 => ?_) (fun b44 => ?_)
          · exact absurd hE (fun h9 => h9.elim (fun e9 => b36 (em1.mpr e9)) (fun e9 => b44 (em2.mpr e9)))
          · refine x_aload_n (pc := 47) hC dX11_copy_47 rfl ?_
            refine x_iconst (pc := 48) hC dX11_copy_48 ?_
            refine x_mV (pc := 49) hC cv_X11_97 dX11_copy_49 (c_failBy hx) (fx_ta hx) rfl (by decide) rfl rfl (Nat.le_of_ble_eq_true rfl) ?_
            dsimp only [Option.toList, List.cons_append, List.nil_append]
            refine x_iret (pc := 52) hC rfl dX11_copy_52 ?_
            rw [axu_uu]
            exact rl_px h 1
      · rw [if_neg hE]
        have ne1 : σ (o + 31) n1 ≠ -9 := fun e => hE (Or.inl e)
        have ne2 : σ (o + 31) n2 ≠ -9 := fun e => hE (Or.inr e)
        refine x_aload_n (pc := 0) hC dX11_copy_0 rfl ?_
        refine x_iconst (pc := 1) hC dX11_copy_1 ?_
        refine x_putI (pc := 2) hC pf_X11_77 dX11_copy_2 (fx_ta hx) (by decide) ?_
        refine x_aload_n (pc := 5) hC dX11_copy_5 rfl ?_
        refine x_iload_n (pc := 6) hC dX11_copy_6 rfl ?_
        refine x_mV (pc := 7) hC cv_X11_85 dX11_copy_7 (rl_sa h h1) (fx_ta hx) rfl (by decide) rfl rfl (Nat.le_of_ble_eq_true rfl) ?_
        dsimp only [Option.toList, List.cons_append, List.nil_append]
        refine x_astore (pc := 10) hC dX11_copy_10 (Nat.le_of_ble_eq_true rfl) ?_
        dsimp only [List.set]
        refine x_aload_n (pc := 12) hC dX11_copy_12 rfl ?_
        refine x_iload_n (pc := 13) hC dX11_copy_13 rfl ?_
        refine x_mV (pc := 14) hC cv_X11_85 dX11_copy_14 (rl_sa h h2) (fx_ta hx) rfl (by decide) rfl rfl (Nat.le_of_ble_eq_true rfl) ?_
        dsimp only [Option.toList, List.cons_append, List.nil_append]
        refine x_astore (pc := 17) hC dX11_copy_17 (Nat.le_of_ble_eq_true rfl) ?_
        dsimp only [List.set]
        refine x_aload (pc := 19) hC dX11_copy_19 rfl ?_
        refine x_ifnull (pc := 21) hC 29 dX11_copy_21 (by decide) (fun h => by cases h) (fun _ _ => ?_)
        refine x_aload (pc := 24) hC dX11_copy_24 rfl ?_
        refine x_ifnonnull (pc := 26) hC 31 dX11_copy_26 (by decide) (fun _ _ => ?_) (fun h => by cases h)
        refine x_aload (pc := 31) hC dX11_copy_31 rfl ?_
        refine x_mV (pc := 33) hC cv_X11_328 dX11_copy_33 (c_isEmpty (fx_ss hx n1 h1).2) (fx_ss hx n1 h1).2 rfl (by decide) rfl rfl (Nat.le_of_ble_eq_true rfl) ?_
        dsimp only [Option.toList, List.cons_append, List.nil_append]
        refine x_ifB_ne (pc := 36) hC 47 dX11_copy_36 (by decide) (fun b36 => ?_) (fun b36 => ?_)
        · exfalso
          first
          | exact ne1 (em1.mp b36)
          | exact ne2 (em2.mp b44)
        · refine x_aload (pc := 39) hC dX11_copy_39 rfl ?_
          refine x_mV (pc := 41) hC cv_X11_328 dX11_copy_41 (c_isEmpty (fx_ss hx n2 h2).2) (fx_ss hx n2 h2).2 rfl (by decide) rfl rfl (Nat.le_of_ble_eq_true rfl) ?_
          dsimp only [Option.toList, List.cons_append, List.nil_append]
          refine x_ifB_eq (pc := 44) hC 53 dX11_copy_44 (by decide) (fun b44 => ?_) (fun b44 => ?_)
          · by_cases hP : σ (o + 31) n1 = 2 ∨ σ (o + 31) n1 ≠ σ (o + 31) n2
            · rw [if_pos hP]
              refine x_aload (pc := 53) hC dX11_copy_53 rfl ?_
              refine x_getO (pc := 55) hC gf_X11_108 dX11_copy_55 (fx_ss hx n1 h1).2 rfl ?_
              refine x_ifnull (pc := 58) hC 82 dX11_copy_58 (by decide) (fun b58 => ?_) (fun q58 b58 => ?_)
              · refine x_aload_n (pc := 82) hC dX11_copy_82 rfl ?_
                refine x_iconst (pc := 83) hC dX11_copy_83 ?_
                refine x_mV (pc := 84) hC cv_X11_97 dX11_copy_84 (c_failBy hx) (fx_ta hx) rfl (by decide) rfl rfl (Nat.le_of_ble_eq_true rfl) ?_
                dsimp only [Option.toList, List.cons_append, List.nil_append]
                refine x_iret (pc := 87) hC rfl dX11_copy_87 ?_
                rw [axu_uu]
                exact rl_px h 2
              · refine x_aload (pc := 61) hC dX11_copy_61 rfl ?_
                refine x_getO (pc := 63) hC gf_X11_108 dX11_copy_63 (fx_ss hx n2 h2).2 rfl ?_
                refine x_ifnull (pc := 66) hC 82 dX11_copy_66 (by decide) (fun b66 => ?_) (fun q66 b66 => ?_)
                · refine x_aload_n (pc := 82) hC dX11_copy_82 rfl ?_
                  refine x_iconst (pc := 83) hC dX11_copy_83 ?_
                  refine x_mV (pc := 84) hC cv_X11_97 dX11_copy_84 (c_failBy hx) (fx_ta hx) rfl (by decide) rfl rfl (Nat.le_of_ble_eq_true rfl) ?_
                  dsimp only [Option.toList, List.cons_append, List.nil_append]
                  refine x_iret (pc := 87) hC rfl dX11_copy_87 ?_
                  rw [axu_uu]
                  exact rl_px h 2
                · refine x_aload (pc := 69) hC dX11_copy_69 rfl ?_
                  refine x_getI (pc := 71) hC gf_X11_337 dX11_copy_71 (fx_ss hx n1 h1).2 ?_
                  refine x_aload (pc := 74) hC dX11_copy_74 rfl ?_
                  refine x_getI (pc := 76) hC gf_X11_337 dX11_copy_76 (fx_ss hx n2 h2).2 ?_
                  rw [i1, i2]
                  refine x_icmp_eq (pc := 79) hC 88 dX11_copy_79 (by decide) r1 r2 (fun b79 => ?_) (fun b79 => ?_)
                  · exfalso
                    obtain ⟨-, ⟨-, -, c3, c4, -⟩, -⟩ := rl_ar h hMS h1 q58 b58
                    obtain ⟨-, ⟨-, -, d3, d4, -⟩, -⟩ := rl_ar h hMS h2 q66 b66
                    rw [c4, d4] at b79
                    omega
                  · refine x_aload_n (pc := 82) hC dX11_copy_82 rfl ?_
                    refine x_iconst (pc := 83) hC dX11_copy_83 ?_
                    refine x_mV (pc := 84) hC cv_X11_97 dX11_copy_84 (c_failBy hx) (fx_ta hx) rfl (by decide) rfl rfl (Nat.le_of_ble_eq_true rfl) ?_
                    dsimp only [Option.toList, List.cons_append, List.nil_append]
                    refine x_iret (pc := 87) hC rfl dX11_copy_87 ?_
                    rw [axu_uu]
                    exact rl_px h 2
            · rw [if_neg hP]
              have hn2 : σ (o + 31) n1 ≠ 2 := fun e => hP (Or.inl e)
              have heq : σ (o + 31) n1 = σ (o + 31) n2 := Decidable.of_not_not (fun e => hP (Or.inr e))
              refine x_aload (pc := 53) hC dX11_copy_53 rfl ?_
              refine x_getO (pc := 55) hC gf_X11_108 dX11_copy_55 (fx_ss hx n1 h1).2 rfl ?_
              refine x_ifnull (pc := 58) hC 82 dX11_copy_58 (by decide) (fun b58 => ?_) (fun q58 b58 => ?_)
              · exfalso
                first
                | exact hn2 (rl_n2 h h1 b58 ne1)
                | exact hn2 (heq.trans (rl_n2 h h2 b66 ne2))
                | (obtain ⟨-, ⟨-, -, c3, c4, -⟩, -⟩ := rl_ar h hMS h1 q58 b58
                   obtain ⟨-, ⟨-, -, d3, d4, -⟩, -⟩ := rl_ar h hMS h2 q66 b66
                   rw [c4, d4, heq] at b79
                   exact b79 rfl)
              · refine x_aload (pc := 61) hC dX11_copy_61 rfl ?_
                refine x_getO (pc := 63) hC gf_X11_108 dX11_copy_63 (fx_ss hx n2 h2).2 rfl ?_
                refine x_ifnull (pc := 66) hC 82 dX11_copy_66 (by decide) (fun b66 => ?_) (fun q66 b66 => ?_)
                · exfalso
                  first
                  | exact hn2 (rl_n2 h h1 b58 ne1)
                  | exact hn2 (heq.trans (rl_n2 h h2 b66 ne2))
                  | (obtain ⟨-, ⟨-, -, c3, c4, -⟩, -⟩ := rl_ar h hMS h1 q58 b58
                     obtain ⟨-, ⟨-, -, d3, d4, -⟩, -⟩ := rl_ar h hMS h2 q66 b66
                     rw [c4, d4, heq] at b79
                     exact b79 rfl)
                · refine x_aload (pc := 69) hC dX11_copy_69 rfl ?_
                  refine x_getI (pc := 71) hC gf_X11_337 dX11_copy_71 (fx_ss hx n1 h1).2 ?_
                  refine x_aload (pc := 74) hC dX11_copy_74 rfl ?_
                  refine x_getI (pc := 76) hC gf_X11_337 dX11_copy_76 (fx_ss hx n2 h2).2 ?_
                  rw [i1, i2]
                  refine x_icmp_eq (pc := 79) hC 88 dX11_copy_79 (by decide) r1 r2 (fun b79 => ?_) (fun b79 => ?_)
                  · obtain ⟨⟨t1, t2, t3⟩, ⟨t4, t5, t6, t7, t8⟩, t9⟩ := rl_ar h hMS h1 q58 b58
                    obtain ⟨⟨p1, p2, p3⟩, ⟨p4, p5, p6, p7, p8⟩, p9⟩ := rl_ar h hMS h2 q66 b66
                    have m1 := hMS.2.1 n1
                    have m2 := hMS.2.1 n2
                    by_cases hG : (0 ≤ i ∧ 0 ≤ j ∧ 0 ≤ k ∧ i ≤ σ (o + 32) n1 ∧ j ≤ σ (o + 32) n2 ∧ k ≤ σ (o + 32) n1 - i ∧ k ≤ σ (o + 32) n2 - j)
                    · rw [if_pos hG]
                      refine x_iload_n (pc := 88) hC dX11_copy_88 rfl ?_
                      refine x_iload (pc := 89) hC dX11_copy_89 rfl ?_
                      refine x_aload (pc := 91) hC dX11_copy_91 rfl ?_
                      refine x_getO (pc := 93) hC gf_X11_108 dX11_copy_93 (fx_ss hx n1 h1).2 b58 ?_
                      refine x_alen (pc := 96) hC dX11_copy_96 (by rw [t1]; decide) (by rw [t1]; decide) ?_
                      refine x_mS (pc := 97) hC cs_X11_342 dX11_copy_97 (c_isRange ri rk ⟨t2, t3⟩) rfl (by decide) rfl rfl (Nat.le_of_ble_eq_true rfl) ?_
                      dsimp only [Option.toList, List.cons_append, List.nil_append]
                      refine x_ifB_eq (pc := 100) hC 119 dX11_copy_100 (by decide) (fun b100 => ?_) (fun b100 => ?_)
                      · exfalso; omega
                      · refine x_iload (pc := 103) hC dX11_copy_103 rfl ?_
                        refine x_iload (pc := 105) hC dX11_copy_105 rfl ?_
                        refine x_aload (pc := 107) hC dX11_copy_107 rfl ?_
                        refine x_getO (pc := 109) hC gf_X11_108 dX11_copy_109 (fx_ss hx n2 h2).2 b66 ?_
                        refine x_alen (pc := 112) hC dX11_copy_112 (by rw [p1]; decide) (by rw [p1]; decide) ?_
                        refine x_mS (pc := 113) hC cs_X11_342 dX11_copy_113 (c_isRange rj rk ⟨p2, p3⟩) rfl (by decide) rfl rfl (Nat.le_of_ble_eq_true rfl) ?_
                        dsimp only [Option.toList, List.cons_append, List.nil_append]
                        refine x_ifB_ne (pc := 116) hC 125 dX11_copy_116 (by decide) (fun b116 => ?_) (fun b116 => ?_)
                        · refine x_aload (pc := 125) hC dX11_copy_125 rfl ?_
                          refine x_getO (pc := 127) hC gf_X11_108 dX11_copy_127 (fx_ss hx n1 h1).2 b58 ?_
                          refine x_iload_n (pc := 130) hC dX11_copy_130 rfl ?_
                          refine x_aload (pc := 131) hC dX11_copy_131 rfl ?_
                          refine x_getO (pc := 133) hC gf_X11_108 dX11_copy_133 (fx_ss hx n2 h2).2 b66 ?_
                          refine x_iload (pc := 136) hC dX11_copy_136 rfl ?_
                          refine x_iload (pc := 138) hC dX11_copy_138 rfl ?_
                          refine x_acopy (pc := 140) hC ac_X11_346 w_acnat w_acst w_sysini dX11_copy_140 t1 p1 (by omega) (by omega) hG.1 hG.2.1 hG.2.2.1 (by omega) (by omega) (by decide) rfl (Nat.le_of_ble_eq_true rfl) ?_
                          refine x_iload (pc := 143) hC dX11_copy_143 rfl ?_
                          refine x_iret (pc := 145) hC rfl dX11_copy_145 ?_
                          refine ⟨rfl, fun q hq => ⟨rfl, rfl, ?_, rfl⟩, Nat.le_refl _, A, w, ?_⟩
                          · funext x
                            show (if q = q66 ∧ _ then _ else _) = _
                            rw [if_neg (fun h9 => by have := h9.1; omega), axu_a (by omega)]
                          · have gq : ∀ q, q ≠ q66 → ax_c (ax_u I a 11 0) q58 i q66 j k q = ax_u I a 11 0 q := fun q hq => by
                              funext x
                              exact if_neg (fun h9 => hq h9.1)
                            refine rl_wr h hMS h2 b66 (fun q e1 e2 => by rw [gq q e2, axu_row e1]) (fun x hx9 => by rw [gq a (by omega), axu_j hx9]) (by rw [gq a (by omega), axu_s, axu_s]) (fun x hx9 => by rw [axu_j hx9, axf_a (by omega)]) (fun q e1 e2 => by rw [axu_row e1]; funext x; rw [axf_a e2]) (fun x hx9 => by rw [axu_a (by omega), axf_out (by omega)]) (fun x x0 x1 => ?_)
                            rw [axu_a (show o + 33 ≠ o by omega)]
                            by_cases hx9 : j ≤ x ∧ x < j + k
                            · rw [axf_in (by omega) (by omega)]
                              have e9 : ax_c (ax_u I a 11 0) q58 i q66 j k q66 x = ax_u I a 11 0 q58 (i + (x - j)) := if_pos ⟨rfl, hx9.1, hx9.2⟩
                              rw [e9, axu_a (by omega), t9 _ (by omega) (by omega)]
                              congr 1
                              omega
                            · rw [axf_out (by omega)]
                              have e9 : ax_c (ax_u I a 11 0) q58 i q66 j k q66 x = ax_u I a 11 0 q66 x := if_neg (fun h9 => hx9 h9.2)
                              rw [e9, axu_a (by omega)]
                              exact p9 x x0 x1
                        · exfalso; omega
                    · rw [if_neg hG]
                      refine x_iload_n (pc := 88) hC dX11_copy_88 rfl ?_
                      refine x_iload (pc := 89) hC dX11_copy_89 rfl ?_
                      refine x_aload (pc := 91) hC dX11_copy_91 rfl ?_
                      refine x_getO (pc := 93) hC gf_X11_108 dX11_copy_93 (fx_ss hx n1 h1).2 b58 ?_
                      refine x_alen (pc := 96) hC dX11_copy_96 (by rw [t1]; decide) (by rw [t1]; decide) ?_
                      refine x_mS (pc := 97) hC cs_X11_342 dX11_copy_97 (c_isRange ri rk ⟨t2, t3⟩) rfl (by decide) rfl rfl (Nat.le_of_ble_eq_true rfl) ?_
                      dsimp only [Option.toList, List.cons_append, List.nil_append]
                      refine x_ifB_eq (pc := 100) hC 119 dX11_copy_100 (by decide) (fun b100 => ?_) (fun b100 => ?_)
                      · refine x_aload_n (pc := 119) hC dX11_copy_119 rfl ?_
                        refine x_iconst (pc := 120) hC dX11_copy_120 ?_
                        refine x_mV (pc := 121) hC cv_X11_97 dX11_copy_121 (c_failBy hx) (fx_ta hx) rfl (by decide) rfl rfl (Nat.le_of_ble_eq_true rfl) ?_
                        dsimp only [Option.toList, List.cons_append, List.nil_append]
                        refine x_iret (pc := 124) hC rfl dX11_copy_124 ?_
                        rw [axu_uu]
                        exact rl_px h 3
                      · refine x_iload (pc := 103) hC dX11_copy_103 rfl ?_
                        refine x_iload (pc := 105) hC dX11_copy_105 rfl ?_
                        refine x_aload (pc := 107) hC dX11_copy_107 rfl ?_
                        refine x_getO (pc := 109) hC gf_X11_108 dX11_copy_109 (fx_ss hx n2 h2).2 b66 ?_
                        refine x_alen (pc := 112) hC dX11_copy_112 (by rw [p1]; decide) (by rw [p1]; decide) ?_
                        refine x_mS (pc := 113) hC cs_X11_342 dX11_copy_113 (c_isRange rj rk ⟨p2, p3⟩) rfl (by decide) rfl rfl (Nat.le_of_ble_eq_true rfl) ?_
                        dsimp only [Option.toList, List.cons_append, List.nil_append]
                        refine x_ifB_ne (pc := 116) hC 125 dX11_copy_116 (by decide) (fun b116 => ?_) (fun b116 => ?_)
                        · exfalso; omega
                        · refine x_aload_n (pc := 119) hC dX11_copy_119 rfl ?_
                          refine x_iconst (pc := 120) hC dX11_copy_120 ?_
                          refine x_mV (pc := 121) hC cv_X11_97 dX11_copy_121 (c_failBy hx) (fx_ta hx) rfl (by decide) rfl rfl (Nat.le_of_ble_eq_true rfl) ?_
                          dsimp only [Option.toList, List.cons_append, List.nil_append]
                          refine x_iret (pc := 124) hC rfl dX11_copy_124 ?_
                          rw [axu_uu]
                          exact rl_px h 3
                  · exfalso
                    first
                    | exact hn2 (rl_n2 h h1 b58 ne1)
                    | exact hn2 (heq.trans (rl_n2 h h2 b66 ne2))
                    | (obtain ⟨-, ⟨-, -, c3, c4, -⟩, -⟩ := rl_ar h hMS h1 q58 b58
                       obtain ⟨-, ⟨-, -, d3, d4, -⟩, -⟩ := rl_ar h hMS h2 q66 b66
                       rw [c4, d4, heq] at b79
                       exact b79 rfl)
          · exfalso
            first
            | exact ne1 (em1.mp b36)
            | exact ne2 (em2.mp b44)
    · rw [if_neg (fun h9 => hd5 h9.2)]
      refine x_aload_n (pc := 0) hC dX11_copy_0 rfl ?_
      refine x_iconst (pc := 1) hC dX11_copy_1 ?_
      refine x_putI (pc := 2) hC pf_X11_77 dX11_copy_2 (fx_ta hx) (by decide) ?_
      refine x_aload_n (pc := 5) hC dX11_copy_5 rfl ?_
      refine x_iload_n (pc := 6) hC dX11_copy_6 rfl ?_
      refine x_mV (pc := 7) hC cv_X11_85 dX11_copy_7 (c_slotAt hx (c := s) rs) (fx_ta hx) rfl (by decide) rfl rfl (Nat.le_of_ble_eq_true rfl) ?_
      dsimp only [Option.toList, List.cons_append, List.nil_append]
      refine x_astore (pc := 10) hC dX11_copy_10 (Nat.le_of_ble_eq_true rfl) ?_
      dsimp only [List.set]
      refine x_aload_n (pc := 12) hC dX11_copy_12 rfl ?_
      refine x_iload_n (pc := 13) hC dX11_copy_13 rfl ?_
      refine x_mV (pc := 14) hC cv_X11_85 dX11_copy_14 (rl_ns h rd hd5) (fx_ta hx) rfl (by decide) rfl rfl (Nat.le_of_ble_eq_true rfl) ?_
      dsimp only [Option.toList, List.cons_append, List.nil_append]
      refine x_astore (pc := 17) hC dX11_copy_17 (Nat.le_of_ble_eq_true rfl) ?_
      dsimp only [List.set]
      refine x_aload (pc := 19) hC dX11_copy_19 rfl ?_
      refine x_ifnull (pc := 21) hC 29 dX11_copy_21 (by decide) (fun b21 => ?_) (fun q21 b21 => ?_)
      · refine x_iconst (pc := 29) hC dX11_copy_29 ?_
        refine x_iret (pc := 30) hC rfl dX11_copy_30 ?_
        exact rl_px h 0
      · refine x_aload (pc := 24) hC dX11_copy_24 rfl ?_
        refine x_ifnonnull (pc := 26) hC 31 dX11_copy_26 (by decide) (fun _ h => by cases h) (fun _ => ?_)
        refine x_iconst (pc := 29) hC dX11_copy_29 ?_
        refine x_iret (pc := 30) hC rfl dX11_copy_30 ?_
        exact rl_px h 0
  · rw [if_neg (fun h9 => hs5 h9.1)]
    refine x_aload_n (pc := 0) hC dX11_copy_0 rfl ?_
    refine x_iconst (pc := 1) hC dX11_copy_1 ?_
    refine x_putI (pc := 2) hC pf_X11_77 dX11_copy_2 (fx_ta hx) (by decide) ?_
    refine x_aload_n (pc := 5) hC dX11_copy_5 rfl ?_
    refine x_iload_n (pc := 6) hC dX11_copy_6 rfl ?_
    refine x_mV (pc := 7) hC cv_X11_85 dX11_copy_7 (rl_ns h rs hs5) (fx_ta hx) rfl (by decide) rfl rfl (Nat.le_of_ble_eq_true rfl) ?_
    dsimp only [Option.toList, List.cons_append, List.nil_append]
    refine x_astore (pc := 10) hC dX11_copy_10 (Nat.le_of_ble_eq_true rfl) ?_
    dsimp only [List.set]
    refine x_aload_n (pc := 12) hC dX11_copy_12 rfl ?_
    refine x_iload_n (pc := 13) hC dX11_copy_13 rfl ?_
    refine x_mV (pc := 14) hC cv_X11_85 dX11_copy_14 (c_slotAt hx (c := d) rd) (fx_ta hx) rfl (by decide) rfl rfl (Nat.le_of_ble_eq_true rfl) ?_
    dsimp only [Option.toList, List.cons_append, List.nil_append]
    refine x_astore (pc := 17) hC dX11_copy_17 (Nat.le_of_ble_eq_true rfl) ?_
    dsimp only [List.set]
    refine x_aload (pc := 19) hC dX11_copy_19 rfl ?_
    refine x_ifnull (pc := 21) hC 29 dX11_copy_21 (by decide) (fun _ => ?_) (fun _ h => by cases h)
    refine x_iconst (pc := 29) hC dX11_copy_29 ?_
    refine x_iret (pc := 30) hC rfl dX11_copy_30 ?_
    exact rl_px h 0

