/-! THE CLASS: foretell, 2 -/
theorem sub_10 {v v2 : Int} (r2 : ax_r v2) (e : v2 = v - 10 ∨ v2 = v - 10 + 4294967296 ∨ v2 = v - 10 - 4294967296) (h : 10 ≤ v ∧ v ≤ 25) : v - 10 = v2 ∧ 0 ≤ v2 := by
  have := r2.1
  have := r2.2
  omega
theorem not05 {v : Int} (n0 : ¬ v = 0) (n1 : ¬ v = 1) (n2 : ¬ v = 2) (n3 : ¬ v = 3) (n4 : ¬ v = 4) (n5 : ¬ v = 5) : ¬ (0 ≤ v ∧ v ≤ 5) := by omega

set_option maxHeartbeats 4000000 in
set_option maxRecDepth 100000 in
theorem c_carryR {G : ax_G} {T : Nat → Nat} {N : Nat → Int} {I : Nat → Int → Int} {R : Nat → Int → Option Nat} {z a o : Nat} {σ : Nat → Int → Int} {A w : Int → Nat} (h : RelA G T N I R z a o σ A w) (hI : miC σ o) (hR : miR σ o) (hz0 : σ (o + 6) 0 = 0) {b c : Int} (hb : 0 ≤ b ∧ b < 4) (hc0 : 0 ≤ c ∧ c < σ o 2) {LL TH L : List Int} {tt r : Nat} {ma lv : Int} {F : Fr} (hLL : LL = ((path (σ (o + 2)) (σ (o + 7) b)).filter (fun y => decide (y ∉ path (σ (o + 2)) c)))) (hTH : TH = ((path (σ (o + 2)) c).filter (fun y => decide (y ∉ path (σ (o + 2)) (σ (o + 7) b))))) (hh : Rh T N I R a A c LL TH tt r L ma lv (((tdL σ o b c).length : Int) - 1)) (hF : F = fore σ o b c (tdL σ o b c) L ma lv) : axM G YX11_carry 7 [vR a, vR (a + 189)] T N I R z 24 384 (fun r1 T1 N1 I1 R1 z1 => ∃ s tt r L ma lv at_, r1 = some (vI s) ∧ fro a o T N I R T1 N1 I1 R1 ∧ z ≤ z1 ∧ RelA G T1 N1 I1 R1 z1 a o σ A w ∧ Rh T1 N1 I1 R1 a A c LL TH tt r L ma lv at_ ∧ (0 ≤ s ∧ s ≤ 2) ∧ ((s = 0 ∧ F = (L, ma, lv, -9, 0, 0)) ∨ (s ≠ 0 ∧ ∃ x op : Int, F = (L, ma, lv, x, op, s) ∧ (0 < x ∧ x < σ o 2) ∧ (0 ≤ at_ ∧ at_ < 24) ∧ R1 (a + 192) at_ = some (A x) ∧ I1 (a + 5) 5 = op))) := by

  refine ax_enter (by decide) (Nat.le_of_ble_eq_true rfl) (ax_cat rfl) (fun f hC => ?_)
  show axX G f 24 384 _ 0 [vR a, vR (a + 189), vU, vU] [] T N I R z 24 384
  have htd := td_rev hI (c := c) hb
  have hl24 := path_len hI (hI.2.2.2.2.1 b hb.1 hb.2)
  have hl : (tdL σ o b c).length ≤ 24 := by
    rw [htd, List.length_reverse]
    exact Nat.le_trans (List.length_filter_le _ _) hl24
  exact c_carryR_loop hC hI hR hz0 hb hc0 hLL hTH (tdL σ o b c) T N I R z tt r L ma lv _ _ 24 384 ⟨[], rfl⟩ h hh hF (fun _ _ => ⟨rfl, rfl, rfl, rfl⟩) (Nat.le_refl _) hl (by omega)

set_option maxHeartbeats 4000000 in
set_option maxRecDepth 100000 in
theorem c_foretell {G : ax_G} {T : Nat → Nat} {N : Nat → Int} {I : Nat → Int → Int} {R : Nat → Int → Option Nat} {z a o : Nat} {σ : Nat → Int → Int} {A w : Int → Nat} (h : RelA G T N I R z a o σ A w) (hI : miC σ o) (hR : miR σ o) (hS : rpS σ o) (hz0 : σ (o + 6) 0 = 0) {b c v : Int} (rb : ax_r b) (rc : ax_r c) (rv : ax_r v) : axM G YX11_foretell 8 [vR a, vI b, vI c, vI v] T N I R z 24 384 (rPX G T N I R z a o (vI (ftR σ o b c v)) σ) := by
  refine ax_enter (by decide) (Nat.le_of_ble_eq_true rfl) (ax_cat rfl) (fun f hC => ?_)
  show axX G f 24 384 _ 0 [vR a, vI b, vI c, vI v, vU, vU, vU] [] T N I R z 24 384
  have hx := rl_fx h
  have b0 := fx_b0 hx
  have b1 := fx_b1 hx
  have hn9 := rl_n h
  have hC1 := hI.1
  have h8 := rl_st h
  have hs2 := hS.1
  have hu := c_isUnderWay (G := G) (I := I) hx (by rw [h8]; constructor <;> omega)
  unfold ftR
  by_cases hb : 0 ≤ b ∧ b < 4
  · have ht := hI.2.2.2.2.1 b hb.1 hb.2
    have t1 := ((rl_cs h).2 _ ht.1 ht.2).1
    by_cases hc : 0 ≤ c ∧ c < σ o 2
    · have c1 := ((rl_cs h).2 c hc.1 hc.2).1
      have hlr := c_lacksRoom (G := G) (z := z) hx (rl_cs h) ht hc (by omega) (path_len hI ht)
      rw [if_pos ⟨hb, hc⟩]
      by_cases hv : (0 ≤ v ∧ v ≤ 5) ∨ (10 ≤ v ∧ v ≤ 25)
      · rw [if_pos hv]
        by_cases h40 : σ o 40 = 0
        · rw [if_pos h40]
          rw [bI_f (show ¬ (I (a + 183) 8 ≠ 0) by rw [h8, h40]; decide)] at hu
          have htd := td_rev hI (c := c) hb
          have hll : (tdL σ o b c).length = ((path (σ (o + 2)) (σ (o + 7) b)).filter (fun y => decide (y ∉ path (σ (o + 2)) c))).length := by rw [htd, List.length_reverse]
          by_cases hrm : σ o 2 + ((tdL σ o b c).length : Int) ≤ 24
          · rw [if_pos hrm]
            rw [bI_f (show ¬ (I a 2 + (((path (σ (o + 2)) (σ (o + 7) b)).filter (fun y => decide (y ∉ path (σ (o + 2)) c))).length : Int) > 24) by rw [hn9, ← hll]; omega)] at hlr
            refine x_aload_n (pc := 0) hC dX11_foretell_0 rfl ?_
            refine x_iload_n (pc := 1) hC dX11_foretell_1 rfl ?_
            refine x_mV (pc := 2) hC cv_X11_81 dX11_foretell_2 (rl_tip h hb) (fx_ta hx) rfl (by decide) rfl rfl (Nat.le_of_ble_eq_true rfl) ?_
            dsimp only [Option.toList, List.cons_append, List.nil_append]
            refine x_astore (pc := 5) hC dX11_foretell_5 (Nat.le_of_ble_eq_true rfl) ?_
            dsimp only [List.set]
            refine x_aload_n (pc := 7) hC dX11_foretell_7 rfl ?_
            refine x_iload_n (pc := 8) hC dX11_foretell_8 rfl ?_
            refine x_mV (pc := 9) hC cv_X11_123 dX11_foretell_9 (rl_at h hI hc) (fx_ta hx) rfl (by decide) rfl rfl (Nat.le_of_ble_eq_true rfl) ?_
            dsimp only [Option.toList, List.cons_append, List.nil_append]
            refine x_astore (pc := 12) hC dX11_foretell_12 (Nat.le_of_ble_eq_true rfl) ?_
            dsimp only [List.set]
            refine x_aload (pc := 14) hC dX11_foretell_14 rfl ?_
            refine x_ifnull (pc := 16) hC 24 dX11_foretell_16 (by decide) (fun h => by cases h) (fun _ _ => ?_)
            refine x_aload (pc := 19) hC dX11_foretell_19 rfl ?_
            refine x_ifnonnull (pc := 21) hC 26 dX11_foretell_21 (by decide) (fun _ _ => ?_) (fun h => by cases h)
            refine x_iload_n (pc := 26) hC dX11_foretell_26 rfl ?_
            refine x_if_lt (pc := 27) hC 35 dX11_foretell_27 (by decide) (by omega) (fun b27 => ?_) (fun b27 => ?_)
            · refine x_iload_n (pc := 35) hC dX11_foretell_35 rfl ?_
              refine x_bipush (pc := 36) hC dX11_foretell_36 (by decide) ?_
              refine x_isubW (pc := 38) hC dX11_foretell_38 rv (by decide) (fun v1 r1 e9 => ?_)
              refine x_mS (pc := 39) hC cs_X11_149 dX11_foretell_39 (c_isLineIndex r1) rfl (by decide) rfl rfl (Nat.le_of_ble_eq_true rfl) ?_
              dsimp only [Option.toList, List.cons_append, List.nil_append]
              refine x_ifB_ne (pc := 42) hC 48 dX11_foretell_42 (by decide) (fun b42 => ?_) (fun b42 => ?_)
              · refine x_aload_n (pc := 48) hC dX11_foretell_48 rfl ?_
                refine x_mV (pc := 49) hC cv_X11_89 dX11_foretell_49 hu (fx_ta hx) rfl (by decide) rfl rfl (Nat.le_of_ble_eq_true rfl) ?_
                dsimp only [Option.toList, List.cons_append, List.nil_append]
                refine x_if_eq (pc := 52) hC 58 dX11_foretell_52 (by decide) (by decide) (fun _ => ?_) (fun h => absurd rfl h)
                refine x_aload_n (pc := 58) hC dX11_foretell_58 rfl ?_
                refine x_aload (pc := 59) hC dX11_foretell_59 rfl ?_
                refine x_aload (pc := 61) hC dX11_foretell_61 rfl ?_
                refine x_mV (pc := 63) hC cv_X11_241 dX11_foretell_63 hlr (fx_ta hx) rfl (by decide) rfl rfl (Nat.le_of_ble_eq_true rfl) ?_
                dsimp only [Option.toList, List.cons_append, List.nil_append]
                refine x_if_eq (pc := 66) hC 72 dX11_foretell_66 (by decide) (by decide) (fun _ => ?_) (fun h => absurd rfl h)
                refine x_aload_n (pc := 72) hC dX11_foretell_72 rfl ?_
                refine x_getO (pc := 73) hC gf_X11_74 dX11_foretell_73 (fx_ta hx) (fx_re hx).1 ?_
                refine x_iload_n (pc := 76) hC dX11_foretell_76 rfl ?_
                refine x_aload (pc := 77) hC dX11_foretell_77 rfl ?_
                refine x_aload (pc := 79) hC dX11_foretell_79 rfl ?_
                refine x_rV (pc := 81) hC cv_X11_249 dX11_foretell_81 (c_begin (rl_cs h) (fx_re hx).2.1 ⟨by omega, fun d d0 d1 => by have := (rl_cc h d d0 d1).2.2.2.2.2.2.2; have := (fx_nl hx).2; omega⟩ ht hc (path_len hI ht) (path_len hI hc)) (fx_re hx).2.1.1 rfl (by decide) rfl rfl (Nat.le_of_ble_eq_true rfl) ?_
                rintro v9 J2 S2 ⟨rfl, ⟨⟨u1, u2, u3⟩, u4, u5, u6⟩, ⟨v1, v2, v3, v4⟩, l1, l2⟩
                dsimp only [Option.toList, List.nil_append]
                have sB : scK T N a I J2 R S2 := sc_rh (fun q hq => ⟨u5 q (by omega) (by omega), v4 q (by omega) (by omega) (by omega)⟩) v3
                have hB := rl_sc h sB
                have hxB := rl_fx hB
                have wc := rl_wo hB hc.1 hc.2
                have rowc := rl_row hB hc.1 hc.2
                have acc := (rl_cc hB c hc.1 hc.2).2.2.2.2.2.2
                have nlx := (fx_nl hx).2
                have hlc : ((rowL σ o c).length : Int) = σ (o + 6) c := rowL_len hI.2.1 c
                have hh : Rh T N J2 S2 a A c ((path (σ (o + 2)) (σ (o + 7) b)).filter (fun y => decide (y ∉ path (σ (o + 2)) c))) ((path (σ (o + 2)) c).filter (fun y => decide (y ∉ path (σ (o + 2)) (σ (o + 7) b)))) (A c) (w c) (rowL σ o c) 0 0 (((tdL σ o b c).length : Int) - 1) := ⟨⟨by rw [u2, hll], u3⟩, ⟨v1, v2⟩, l1, l2, ⟨u6 0 (by omega) (by omega), u6 1 (by omega) (by omega)⟩, ⟨wc.2.2.2.1, wc.2.2.1, wc.1, rowc.1, by rw [rowc.2, hlc], by omega⟩, ⟨Int.le_refl _, Or.inl ⟨rfl, rfl⟩⟩⟩
                have hcar := c_carryR (F := fore σ o b c (tdL σ o b c) (rowL σ o c) 0 0) hB hI hR hz0 hb hc rfl rfl hh rfl
                have hfr2 := fro_sc sB b1
                refine x_aload_n (pc := 84) hC dX11_foretell_84 rfl ?_
                refine x_aload_n (pc := 85) hC dX11_foretell_85 rfl ?_
                refine x_getO (pc := 86) hC gf_X11_74 dX11_foretell_86 (fx_ta hx) (fx_re hxB).1 ?_
                refine x_callV (pc := 89) hC cv_X11_253 dX11_foretell_89 hcar (fx_ta hx) rfl (by decide) (by omega) (by omega) rfl rfl (Nat.le_of_ble_eq_true rfl) (fun r9 T2 N2 I2 R2 z2' hq => ?_)
                obtain ⟨s, tt, r, L, ma, lv, at_, rfl, f2, z2, h2, hh2, hs9, hF9⟩ := hq
                dsimp only [Option.toList, List.cons_append, List.nil_append]
                have hx2 := rl_fx h2
                obtain ⟨⟨g1, g1b⟩, ⟨g2, g3⟩, g4, g5, ⟨g0m, g0l⟩, ⟨g6, g7, g8, g9, g10, g11⟩, -⟩ := hh2
                have g8n := g8.2.1
                obtain ⟨F, hFF⟩ : ∃ F, F = fore σ o b c (tdL σ o b c) (rowL σ o c) 0 0 := ⟨_, rfl⟩
                rw [← hFF] at hF9 ⊢
                have hatL : ∀ i : Int, 0 ≤ i → ax_r i → atO L i = (if 0 ≤ i ∧ i < N2 r then I2 r i else -9) := fun i hi _ => by
                  have := atO_seg (f := I2 r) (i := 0) (j := N2 r) (k := i) g8n.1 hi
                  rw [g9] at this
                  rw [this, Int.zero_add, Int.sub_zero]
                  by_cases e : i < N2 r
                  · rw [if_pos e, if_pos ⟨hi, e⟩]
                  · rw [if_neg e, if_neg (fun h9 => e h9.2)]
                unfold ftV
                rcases hF9 with ⟨hs0, hF⟩ | ⟨hs0, x, op, hF, hx9, hat9, hR9, hI9⟩
                · rw [hF]
                  dsimp only
                  refine x_istore (pc := 92) hC dX11_foretell_92 (Nat.le_of_ble_eq_true rfl) ?_
                  dsimp only [List.set]
                  refine x_iload_n (pc := 94) hC dX11_foretell_94 rfl ?_
                  by_cases t95_0 : v = 0
                  · refine x_tswIn (pc := 95) hC 132 dX11_foretell_95 rv (by omega) (by omega) (by rw [t95_0]; rfl) (by decide) ?_
                    refine x_iload (pc := 132) hC dX11_foretell_132 rfl ?_
                    refine x_iret (pc := 134) hC rfl dX11_foretell_134 ?_
                    rw [if_pos t95_0, if_pos rfl, hs0]
                    exact ⟨rfl, hfr2.tr f2, z2, A, w, h2⟩
                  · skip
                    by_cases t95_1 : v = 1
                    · refine x_tswIn (pc := 95) hC 135 dX11_foretell_95 rv (by omega) (by omega) (by rw [t95_1]; rfl) (by decide) ?_
                      refine x_aload_n (pc := 135) hC dX11_foretell_135 rfl ?_
                      refine x_getO (pc := 136) hC gf_X11_74 dX11_foretell_136 (fx_ta hx2) (fx_re hx2).1 ?_
                      refine x_getO (pc := 139) hC gf_X11_210 dX11_foretell_139 (fx_re hx2).2.1.1 (fx_re hx2).2.1.2.2.2.1.1 ?_
                      refine x_iconst (pc := 142) hC dX11_foretell_142 ?_
                      refine x_iald (pc := 143) hC dX11_foretell_143 (fx_re hx2).2.1.2.2.2.1.2.1 (by omega) (by rw [(fx_re hx2).2.1.2.2.2.1.2.2]; omega) ?_
                      skip
                      refine x_iret (pc := 144) hC rfl dX11_foretell_144 ?_
                      rw [if_neg t95_0, if_pos t95_1, show I2 (a + 192 + 2) 0 = ma from g0m]
                      exact ⟨rfl, hfr2.tr f2, z2, A, w, h2⟩
                    · skip
                      by_cases t95_2 : v = 2
                      · refine x_tswIn (pc := 95) hC 145 dX11_foretell_95 rv (by omega) (by omega) (by rw [t95_2]; rfl) (by decide) ?_
                        refine x_aload_n (pc := 145) hC dX11_foretell_145 rfl ?_
                        refine x_getO (pc := 146) hC gf_X11_74 dX11_foretell_146 (fx_ta hx2) (fx_re hx2).1 ?_
                        refine x_getO (pc := 149) hC gf_X11_210 dX11_foretell_149 (fx_re hx2).2.1.1 (fx_re hx2).2.1.2.2.2.1.1 ?_
                        refine x_iconst (pc := 152) hC dX11_foretell_152 ?_
                        refine x_iald (pc := 153) hC dX11_foretell_153 (fx_re hx2).2.1.2.2.2.1.2.1 (by omega) (by rw [(fx_re hx2).2.1.2.2.2.1.2.2]; omega) ?_
                        refine x_iret (pc := 154) hC rfl dX11_foretell_154 ?_
                        rw [if_neg t95_0, if_neg t95_1, if_pos t95_2, show I2 (a + 192 + 2) 1 = lv from g0l]
                        exact ⟨rfl, hfr2.tr f2, z2, A, w, h2⟩
                      · skip
                        by_cases t95_3 : v = 3
                        · refine x_tswIn (pc := 95) hC 155 dX11_foretell_95 rv (by omega) (by omega) (by rw [t95_3]; rfl) (by decide) ?_
                          refine x_iload (pc := 155) hC dX11_foretell_155 rfl ?_
                          refine x_if_ne (pc := 157) hC 165 dX11_foretell_157 (by decide) (by omega) (fun b157 => ?_) (fun b157 => ?_)
                          · exact absurd hs0 b157
                          · refine x_bipush (pc := 160) hC dX11_foretell_160 (by decide) ?_
                            refine x_goto (pc := 162) hC 175 dX11_foretell_162 (by decide) ?_
                            refine x_iret (pc := 175) hC rfl dX11_foretell_175 ?_
                            rw [if_neg t95_0, if_neg t95_1, if_neg t95_2, if_pos t95_3]
                            exact ⟨rfl, hfr2.tr f2, z2, A, w, h2⟩
                        · skip
                          by_cases t95_4 : v = 4
                          · refine x_tswIn (pc := 95) hC 176 dX11_foretell_95 rv (by omega) (by omega) (by rw [t95_4]; rfl) (by decide) ?_
                            refine x_iload (pc := 176) hC dX11_foretell_176 rfl ?_
                            refine x_if_ne (pc := 178) hC 185 dX11_foretell_178 (by decide) (by omega) (fun b178 => ?_) (fun b178 => ?_)
                            · exact absurd hs0 b178
                            · refine x_iconst (pc := 181) hC dX11_foretell_181 ?_
                              refine x_goto (pc := 182) hC 192 dX11_foretell_182 (by decide) ?_
                              refine x_iret (pc := 192) hC rfl dX11_foretell_192 ?_
                              rw [if_neg t95_0, if_neg t95_1, if_neg t95_2, if_neg t95_3, if_pos t95_4]
                              exact ⟨rfl, hfr2.tr f2, z2, A, w, h2⟩
                          · skip
                            by_cases t95_5 : v = 5
                            · refine x_tswIn (pc := 95) hC 193 dX11_foretell_95 rv (by omega) (by omega) (by rw [t95_5]; rfl) (by decide) ?_
                              refine x_aload_n (pc := 193) hC dX11_foretell_193 rfl ?_
                              refine x_getO (pc := 194) hC gf_X11_74 dX11_foretell_194 (fx_ta hx2) (fx_re hx2).1 ?_
                              refine x_getO (pc := 197) hC gf_X11_279 dX11_foretell_197 (fx_re hx2).2.1.1 g3 ?_
                              refine x_getO (pc := 200) hC (gp_X11_133 g6) dX11_foretell_200 rfl g7 ?_
                              refine x_alen (pc := 203) hC dX11_foretell_203 (by rw [g8.1]; decide) (by rw [g8.1]; decide) ?_
                              refine x_iret (pc := 204) hC rfl dX11_foretell_204 ?_
                              rw [if_neg t95_0, if_neg t95_1, if_neg t95_2, if_neg t95_3, if_neg t95_4, if_pos t95_5, g10]
                              exact ⟨rfl, hfr2.tr f2, z2, A, w, h2⟩
                            · skip
                              refine x_tswOut (pc := 95) hC 205 dX11_foretell_95 (by decide) rv (by omega) ?_
                              refine x_aload_n (pc := 205) hC dX11_foretell_205 rfl ?_
                              refine x_getO (pc := 206) hC gf_X11_74 dX11_foretell_206 (fx_ta hx2) (fx_re hx2).1 ?_
                              refine x_getO (pc := 209) hC gf_X11_279 dX11_foretell_209 (fx_re hx2).2.1.1 g3 ?_
                              refine x_getO (pc := 212) hC (gp_X11_133 g6) dX11_foretell_212 rfl g7 ?_
                              refine x_iload_n (pc := 215) hC dX11_foretell_215 rfl ?_
                              refine x_bipush (pc := 216) hC dX11_foretell_216 (by decide) ?_
                              refine x_isubW (pc := 218) hC dX11_foretell_218 rv (by decide) (fun v2 r2 e8 => ?_)
                              refine x_mS (pc := 219) hC cs_X11_152 dX11_foretell_219 (c_elementOr g8.1 ⟨g8n.1, Int.le_trans g8n.2 (by decide)⟩ r2) rfl (by decide) rfl rfl (Nat.le_of_ble_eq_true rfl) ?_
                              dsimp only [Option.toList, List.cons_append, List.nil_append]
                              refine x_iret (pc := 222) hC rfl dX11_foretell_222 ?_
                              rw [if_neg t95_0, if_neg t95_1, if_neg t95_2, if_neg t95_3, if_neg t95_4, if_neg t95_5, (sub_10 r2 e8 (hv.resolve_left (not05 t95_0 t95_1 t95_2 t95_3 t95_4 t95_5))).1, hatL v2 (sub_10 r2 e8 (hv.resolve_left (not05 t95_0 t95_1 t95_2 t95_3 t95_4 t95_5))).2 r2]
                              exact ⟨rfl, hfr2.tr f2, z2, A, w, h2⟩
                · rw [hF]
                  dsimp only
                  have wx := rl_wo h2 (Int.le_of_lt hx9.1) hx9.2
                  have kx := wx.2.2.2.1
                  have hwk : axE G YX6_commitAtWork 0 [vR (a + 189)] T2 N2 I2 R2 z2' (some (vR (A x))) I2 := by
                    have := c_commitAtWork (G := G) (T := T2) (N := N2) (I := I2) (R := R2) (z := z2') (fx_re hx2).2.1 (by rw [g1]; constructor <;> omega)
                    rw [g1, if_pos hat9, hR9] at this
                    exact this
                  refine x_istore (pc := 92) hC dX11_foretell_92 (Nat.le_of_ble_eq_true rfl) ?_
                  dsimp only [List.set]
                  refine x_iload_n (pc := 94) hC dX11_foretell_94 rfl ?_
                  by_cases t95_0 : v = 0
                  · refine x_tswIn (pc := 95) hC 132 dX11_foretell_95 rv (by omega) (by omega) (by rw [t95_0]; rfl) (by decide) ?_
                    refine x_iload (pc := 132) hC dX11_foretell_132 rfl ?_
                    refine x_iret (pc := 134) hC rfl dX11_foretell_134 ?_
                    rw [if_pos t95_0, if_neg (fun h9 => by rw [h9] at hx9; exact absurd hx9.1 (by decide))]
                    exact ⟨rfl, hfr2.tr f2, z2, A, w, h2⟩
                  · skip
                    by_cases t95_1 : v = 1
                    · refine x_tswIn (pc := 95) hC 135 dX11_foretell_95 rv (by omega) (by omega) (by rw [t95_1]; rfl) (by decide) ?_
                      refine x_aload_n (pc := 135) hC dX11_foretell_135 rfl ?_
                      refine x_getO (pc := 136) hC gf_X11_74 dX11_foretell_136 (fx_ta hx2) (fx_re hx2).1 ?_
                      refine x_getO (pc := 139) hC gf_X11_210 dX11_foretell_139 (fx_re hx2).2.1.1 (fx_re hx2).2.1.2.2.2.1.1 ?_
                      refine x_iconst (pc := 142) hC dX11_foretell_142 ?_
                      refine x_iald (pc := 143) hC dX11_foretell_143 (fx_re hx2).2.1.2.2.2.1.2.1 (by omega) (by rw [(fx_re hx2).2.1.2.2.2.1.2.2]; omega) ?_
                      refine x_iret (pc := 144) hC rfl dX11_foretell_144 ?_
                      rw [if_neg t95_0, if_pos t95_1, show I2 (a + 192 + 2) 0 = ma from g0m]
                      exact ⟨rfl, hfr2.tr f2, z2, A, w, h2⟩
                    · skip
                      by_cases t95_2 : v = 2
                      · refine x_tswIn (pc := 95) hC 145 dX11_foretell_95 rv (by omega) (by omega) (by rw [t95_2]; rfl) (by decide) ?_
                        refine x_aload_n (pc := 145) hC dX11_foretell_145 rfl ?_
                        refine x_getO (pc := 146) hC gf_X11_74 dX11_foretell_146 (fx_ta hx2) (fx_re hx2).1 ?_
                        refine x_getO (pc := 149) hC gf_X11_210 dX11_foretell_149 (fx_re hx2).2.1.1 (fx_re hx2).2.1.2.2.2.1.1 ?_
                        refine x_iconst (pc := 152) hC dX11_foretell_152 ?_
                        refine x_iald (pc := 153) hC dX11_foretell_153 (fx_re hx2).2.1.2.2.2.1.2.1 (by omega) (by rw [(fx_re hx2).2.1.2.2.2.1.2.2]; omega) ?_
                        refine x_iret (pc := 154) hC rfl dX11_foretell_154 ?_
                        rw [if_neg t95_0, if_neg t95_1, if_pos t95_2, show I2 (a + 192 + 2) 1 = lv from g0l]
                        exact ⟨rfl, hfr2.tr f2, z2, A, w, h2⟩
                      · skip
                        by_cases t95_3 : v = 3
                        · refine x_tswIn (pc := 95) hC 155 dX11_foretell_95 rv (by omega) (by omega) (by rw [t95_3]; rfl) (by decide) ?_
                          refine x_iload (pc := 155) hC dX11_foretell_155 rfl ?_
                          refine x_if_ne (pc := 157) hC 165 dX11_foretell_157 (by decide) (by omega) (fun b157 => ?_) (fun b157 => ?_)
                          · refine x_aload_n (pc := 165) hC dX11_foretell_165 rfl ?_
                            refine x_getO (pc := 166) hC gf_X11_74 dX11_foretell_166 (fx_ta hx2) (fx_re hx2).1 ?_
                            refine x_mV (pc := 169) hC cv_X11_273 dX11_foretell_169 hwk (fx_re hx2).2.1.1 rfl (by decide) rfl rfl (Nat.le_of_ble_eq_true rfl) ?_
                            dsimp only [Option.toList, List.cons_append, List.nil_append]
                            refine x_getI (pc := 172) hC (gp_X11_120 kx) dX11_foretell_172 rfl ?_
                            refine x_iret (pc := 175) hC rfl dX11_foretell_175 ?_
                            rw [if_neg t95_0, if_neg t95_1, if_neg t95_2, if_pos t95_3, wx.2.2.2.2]
                            exact ⟨rfl, hfr2.tr f2, z2, A, w, h2⟩
                          · exact absurd (by first | exact b157 | exact Decidable.of_not_not b157) hs0
                        · skip
                          by_cases t95_4 : v = 4
                          · refine x_tswIn (pc := 95) hC 176 dX11_foretell_95 rv (by omega) (by omega) (by rw [t95_4]; rfl) (by decide) ?_
                            refine x_iload (pc := 176) hC dX11_foretell_176 rfl ?_
                            refine x_if_ne (pc := 178) hC 185 dX11_foretell_178 (by decide) (by omega) (fun b178 => ?_) (fun b178 => ?_)
                            · refine x_aload_n (pc := 185) hC dX11_foretell_185 rfl ?_
                              refine x_getO (pc := 186) hC gf_X11_36 dX11_foretell_186 (fx_ta hx2) (fx_mg hx2).1 ?_
                              refine x_getI (pc := 189) hC gf_X11_219 dX11_foretell_189 (fx_mg hx2).2.1 ?_
                              refine x_iret (pc := 192) hC rfl dX11_foretell_192 ?_
                              rw [if_neg t95_0, if_neg t95_1, if_neg t95_2, if_neg t95_3, if_pos t95_4, hI9]
                              exact ⟨rfl, hfr2.tr f2, z2, A, w, h2⟩
                            · exact absurd (by first | exact b178 | exact Decidable.of_not_not b178) hs0
                          · skip
                            by_cases t95_5 : v = 5
                            · refine x_tswIn (pc := 95) hC 193 dX11_foretell_95 rv (by omega) (by omega) (by rw [t95_5]; rfl) (by decide) ?_
                              refine x_aload_n (pc := 193) hC dX11_foretell_193 rfl ?_
                              refine x_getO (pc := 194) hC gf_X11_74 dX11_foretell_194 (fx_ta hx2) (fx_re hx2).1 ?_
                              refine x_getO (pc := 197) hC gf_X11_279 dX11_foretell_197 (fx_re hx2).2.1.1 g3 ?_
                              refine x_getO (pc := 200) hC (gp_X11_133 g6) dX11_foretell_200 rfl g7 ?_
                              refine x_alen (pc := 203) hC dX11_foretell_203 (by rw [g8.1]; decide) (by rw [g8.1]; decide) ?_
                              refine x_iret (pc := 204) hC rfl dX11_foretell_204 ?_
                              rw [if_neg t95_0, if_neg t95_1, if_neg t95_2, if_neg t95_3, if_neg t95_4, if_pos t95_5, g10]
                              exact ⟨rfl, hfr2.tr f2, z2, A, w, h2⟩
                            · skip
                              refine x_tswOut (pc := 95) hC 205 dX11_foretell_95 (by decide) rv (by omega) ?_
                              refine x_aload_n (pc := 205) hC dX11_foretell_205 rfl ?_
                              refine x_getO (pc := 206) hC gf_X11_74 dX11_foretell_206 (fx_ta hx2) (fx_re hx2).1 ?_
                              refine x_getO (pc := 209) hC gf_X11_279 dX11_foretell_209 (fx_re hx2).2.1.1 g3 ?_
                              refine x_getO (pc := 212) hC (gp_X11_133 g6) dX11_foretell_212 rfl g7 ?_
                              refine x_iload_n (pc := 215) hC dX11_foretell_215 rfl ?_
                              refine x_bipush (pc := 216) hC dX11_foretell_216 (by decide) ?_
                              refine x_isubW (pc := 218) hC dX11_foretell_218 rv (by decide) (fun v2 r2 e8 => ?_)
                              refine x_mS (pc := 219) hC cs_X11_152 dX11_foretell_219 (c_elementOr g8.1 ⟨g8n.1, Int.le_trans g8n.2 (by decide)⟩ r2) rfl (by decide) rfl rfl (Nat.le_of_ble_eq_true rfl) ?_
                              dsimp only [Option.toList, List.cons_append, List.nil_append]
                              refine x_iret (pc := 222) hC rfl dX11_foretell_222 ?_
                              rw [if_neg t95_0, if_neg t95_1, if_neg t95_2, if_neg t95_3, if_neg t95_4, if_neg t95_5, (sub_10 r2 e8 (hv.resolve_left (not05 t95_0 t95_1 t95_2 t95_3 t95_4 t95_5))).1, hatL v2 (sub_10 r2 e8 (hv.resolve_left (not05 t95_0 t95_1 t95_2 t95_3 t95_4 t95_5))).2 r2]
                              exact ⟨rfl, hfr2.tr f2, z2, A, w, h2⟩
                
              · exfalso; omega
            · refine x_iload_n (pc := 30) hC dX11_foretell_30 rfl ?_
              refine x_iconst (pc := 31) hC dX11_foretell_31 ?_
              refine x_icmp_le (pc := 32) hC 48 dX11_foretell_32 (by decide) (by omega) (by omega) (fun b32 => ?_) (fun b32 => ?_)
              · refine x_aload_n (pc := 48) hC dX11_foretell_48 rfl ?_
                refine x_mV (pc := 49) hC cv_X11_89 dX11_foretell_49 hu (fx_ta hx) rfl (by decide) rfl rfl (Nat.le_of_ble_eq_true rfl) ?_
                dsimp only [Option.toList, List.cons_append, List.nil_append]
                refine x_if_eq (pc := 52) hC 58 dX11_foretell_52 (by decide) (by decide) (fun _ => ?_) (fun h => absurd rfl h)
                refine x_aload_n (pc := 58) hC dX11_foretell_58 rfl ?_
                refine x_aload (pc := 59) hC dX11_foretell_59 rfl ?_
                refine x_aload (pc := 61) hC dX11_foretell_61 rfl ?_
                refine x_mV (pc := 63) hC cv_X11_241 dX11_foretell_63 hlr (fx_ta hx) rfl (by decide) rfl rfl (Nat.le_of_ble_eq_true rfl) ?_
                dsimp only [Option.toList, List.cons_append, List.nil_append]
                refine x_if_eq (pc := 66) hC 72 dX11_foretell_66 (by decide) (by decide) (fun _ => ?_) (fun h => absurd rfl h)
                refine x_aload_n (pc := 72) hC dX11_foretell_72 rfl ?_
                refine x_getO (pc := 73) hC gf_X11_74 dX11_foretell_73 (fx_ta hx) (fx_re hx).1 ?_
                refine x_iload_n (pc := 76) hC dX11_foretell_76 rfl ?_
                refine x_aload (pc := 77) hC dX11_foretell_77 rfl ?_
                refine x_aload (pc := 79) hC dX11_foretell_79 rfl ?_
                refine x_rV (pc := 81) hC cv_X11_249 dX11_foretell_81 (c_begin (rl_cs h) (fx_re hx).2.1 ⟨by omega, fun d d0 d1 => by have := (rl_cc h d d0 d1).2.2.2.2.2.2.2; have := (fx_nl hx).2; omega⟩ ht hc (path_len hI ht) (path_len hI hc)) (fx_re hx).2.1.1 rfl (by decide) rfl rfl (Nat.le_of_ble_eq_true rfl) ?_
                rintro v9 J2 S2 ⟨rfl, ⟨⟨u1, u2, u3⟩, u4, u5, u6⟩, ⟨v1, v2, v3, v4⟩, l1, l2⟩
                dsimp only [Option.toList, List.nil_append]
                have sB : scK T N a I J2 R S2 := sc_rh (fun q hq => ⟨u5 q (by omega) (by omega), v4 q (by omega) (by omega) (by omega)⟩) v3
                have hB := rl_sc h sB
                have hxB := rl_fx hB
                have wc := rl_wo hB hc.1 hc.2
                have rowc := rl_row hB hc.1 hc.2
                have acc := (rl_cc hB c hc.1 hc.2).2.2.2.2.2.2
                have nlx := (fx_nl hx).2
                have hlc : ((rowL σ o c).length : Int) = σ (o + 6) c := rowL_len hI.2.1 c
                have hh : Rh T N J2 S2 a A c ((path (σ (o + 2)) (σ (o + 7) b)).filter (fun y => decide (y ∉ path (σ (o + 2)) c))) ((path (σ (o + 2)) c).filter (fun y => decide (y ∉ path (σ (o + 2)) (σ (o + 7) b)))) (A c) (w c) (rowL σ o c) 0 0 (((tdL σ o b c).length : Int) - 1) := ⟨⟨by rw [u2, hll], u3⟩, ⟨v1, v2⟩, l1, l2, ⟨u6 0 (by omega) (by omega), u6 1 (by omega) (by omega)⟩, ⟨wc.2.2.2.1, wc.2.2.1, wc.1, rowc.1, by rw [rowc.2, hlc], by omega⟩, ⟨Int.le_refl _, Or.inl ⟨rfl, rfl⟩⟩⟩
                have hcar := c_carryR (F := fore σ o b c (tdL σ o b c) (rowL σ o c) 0 0) hB hI hR hz0 hb hc rfl rfl hh rfl
                have hfr2 := fro_sc sB b1
                refine x_aload_n (pc := 84) hC dX11_foretell_84 rfl ?_
                refine x_aload_n (pc := 85) hC dX11_foretell_85 rfl ?_
                refine x_getO (pc := 86) hC gf_X11_74 dX11_foretell_86 (fx_ta hx) (fx_re hxB).1 ?_
                refine x_callV (pc := 89) hC cv_X11_253 dX11_foretell_89 hcar (fx_ta hx) rfl (by decide) (by omega) (by omega) rfl rfl (Nat.le_of_ble_eq_true rfl) (fun r9 T2 N2 I2 R2 z2' hq => ?_)
                obtain ⟨s, tt, r, L, ma, lv, at_, rfl, f2, z2, h2, hh2, hs9, hF9⟩ := hq
                dsimp only [Option.toList, List.cons_append, List.nil_append]
                have hx2 := rl_fx h2
                obtain ⟨⟨g1, g1b⟩, ⟨g2, g3⟩, g4, g5, ⟨g0m, g0l⟩, ⟨g6, g7, g8, g9, g10, g11⟩, -⟩ := hh2
                have g8n := g8.2.1
                obtain ⟨F, hFF⟩ : ∃ F, F = fore σ o b c (tdL σ o b c) (rowL σ o c) 0 0 := ⟨_, rfl⟩
                rw [← hFF] at hF9 ⊢
                have hatL : ∀ i : Int, 0 ≤ i → ax_r i → atO L i = (if 0 ≤ i ∧ i < N2 r then I2 r i else -9) := fun i hi _ => by
                  have := atO_seg (f := I2 r) (i := 0) (j := N2 r) (k := i) g8n.1 hi
                  rw [g9] at this
                  rw [this, Int.zero_add, Int.sub_zero]
                  by_cases e : i < N2 r
                  · rw [if_pos e, if_pos ⟨hi, e⟩]
                  · rw [if_neg e, if_neg (fun h9 => e h9.2)]
                unfold ftV
                rcases hF9 with ⟨hs0, hF⟩ | ⟨hs0, x, op, hF, hx9, hat9, hR9, hI9⟩
                · rw [hF]
                  dsimp only
                  refine x_istore (pc := 92) hC dX11_foretell_92 (Nat.le_of_ble_eq_true rfl) ?_
                  dsimp only [List.set]
                  refine x_iload_n (pc := 94) hC dX11_foretell_94 rfl ?_
                  by_cases t95_0 : v = 0
                  · refine x_tswIn (pc := 95) hC 132 dX11_foretell_95 rv (by omega) (by omega) (by rw [t95_0]; rfl) (by decide) ?_
                    refine x_iload (pc := 132) hC dX11_foretell_132 rfl ?_
                    refine x_iret (pc := 134) hC rfl dX11_foretell_134 ?_
                    rw [if_pos t95_0, if_pos rfl, hs0]
                    exact ⟨rfl, hfr2.tr f2, z2, A, w, h2⟩
                  · skip
                    by_cases t95_1 : v = 1
                    · refine x_tswIn (pc := 95) hC 135 dX11_foretell_95 rv (by omega) (by omega) (by rw [t95_1]; rfl) (by decide) ?_
                      refine x_aload_n (pc := 135) hC dX11_foretell_135 rfl ?_
                      refine x_getO (pc := 136) hC gf_X11_74 dX11_foretell_136 (fx_ta hx2) (fx_re hx2).1 ?_
                      refine x_getO (pc := 139) hC gf_X11_210 dX11_foretell_139 (fx_re hx2).2.1.1 (fx_re hx2).2.1.2.2.2.1.1 ?_
                      refine x_iconst (pc := 142) hC dX11_foretell_142 ?_
                      refine x_iald (pc := 143) hC dX11_foretell_143 (fx_re hx2).2.1.2.2.2.1.2.1 (by omega) (by rw [(fx_re hx2).2.1.2.2.2.1.2.2]; omega) ?_
                      skip
                      refine x_iret (pc := 144) hC rfl dX11_foretell_144 ?_
                      rw [if_neg t95_0, if_pos t95_1, show I2 (a + 192 + 2) 0 = ma from g0m]
                      exact ⟨rfl, hfr2.tr f2, z2, A, w, h2⟩
                    · skip
                      by_cases t95_2 : v = 2
                      · refine x_tswIn (pc := 95) hC 145 dX11_foretell_95 rv (by omega) (by omega) (by rw [t95_2]; rfl) (by decide) ?_
                        refine x_aload_n (pc := 145) hC dX11_foretell_145 rfl ?_
                        refine x_getO (pc := 146) hC gf_X11_74 dX11_foretell_146 (fx_ta hx2) (fx_re hx2).1 ?_
                        refine x_getO (pc := 149) hC gf_X11_210 dX11_foretell_149 (fx_re hx2).2.1.1 (fx_re hx2).2.1.2.2.2.1.1 ?_
                        refine x_iconst (pc := 152) hC dX11_foretell_152 ?_
                        refine x_iald (pc := 153) hC dX11_foretell_153 (fx_re hx2).2.1.2.2.2.1.2.1 (by omega) (by rw [(fx_re hx2).2.1.2.2.2.1.2.2]; omega) ?_
                        refine x_iret (pc := 154) hC rfl dX11_foretell_154 ?_
                        rw [if_neg t95_0, if_neg t95_1, if_pos t95_2, show I2 (a + 192 + 2) 1 = lv from g0l]
                        exact ⟨rfl, hfr2.tr f2, z2, A, w, h2⟩
                      · skip
                        by_cases t95_3 : v = 3
                        · refine x_tswIn (pc := 95) hC 155 dX11_foretell_95 rv (by omega) (by omega) (by rw [t95_3]; rfl) (by decide) ?_
                          refine x_iload (pc := 155) hC dX11_foretell_155 rfl ?_
                          refine x_if_ne (pc := 157) hC 165 dX11_foretell_157 (by decide) (by omega) (fun b157 => ?_) (fun b157 => ?_)
                          · exact absurd hs0 b157
                          · refine x_bipush (pc := 160) hC dX11_foretell_160 (by decide) ?_
                            refine x_goto (pc := 162) hC 175 dX11_foretell_162 (by decide) ?_
                            refine x_iret (pc := 175) hC rfl dX11_foretell_175 ?_
                            rw [if_neg t95_0, if_neg t95_1, if_neg t95_2, if_pos t95_3]
                            exact ⟨rfl, hfr2.tr f2, z2, A, w, h2⟩
                        · skip
                          by_cases t95_4 : v = 4
                          · refine x_tswIn (pc := 95) hC 176 dX11_foretell_95 rv (by omega) (by omega) (by rw [t95_4]; rfl) (by decide) ?_
                            refine x_iload (pc := 176) hC dX11_foretell_176 rfl ?_
                            refine x_if_ne (pc := 178) hC 185 dX11_foretell_178 (by decide) (by omega) (fun b178 => ?_) (fun b178 => ?_)
                            · exact absurd hs0 b178
                            · refine x_iconst (pc := 181) hC dX11_foretell_181 ?_
                              refine x_goto (pc := 182) hC 192 dX11_foretell_182 (by decide) ?_
                              refine x_iret (pc := 192) hC rfl dX11_foretell_192 ?_
                              rw [if_neg t95_0, if_neg t95_1, if_neg t95_2, if_neg t95_3, if_pos t95_4]
                              exact ⟨rfl, hfr2.tr f2, z2, A, w, h2⟩
                          · skip
                            by_cases t95_5 : v = 5
                            · refine x_tswIn (pc := 95) hC 193 dX11_foretell_95 rv (by omega) (by omega) (by rw [t95_5]; rfl) (by decide) ?_
                              refine x_aload_n (pc := 193) hC dX11_foretell_193 rfl ?_
                              refine x_getO (pc := 194) hC gf_X11_74 dX11_foretell_194 (fx_ta hx2) (fx_re hx2).1 ?_
                              refine x_getO (pc := 197) hC gf_X11_279 dX11_foretell_197 (fx_re hx2).2.1.1 g3 ?_
                              refine x_getO (pc := 200) hC (gp_X11_133 g6) dX11_foretell_200 rfl g7 ?_
                              refine x_alen (pc := 203) hC dX11_foretell_203 (by rw [g8.1]; decide) (by rw [g8.1]; decide) ?_
                              refine x_iret (pc := 204) hC rfl dX11_foretell_204 ?_
                              rw [if_neg t95_0, if_neg t95_1, if_neg t95_2, if_neg t95_3, if_neg t95_4, if_pos t95_5, g10]
                              exact ⟨rfl, hfr2.tr f2, z2, A, w, h2⟩
                            · skip
                              refine x_tswOut (pc := 95) hC 205 dX11_foretell_95 (by decide) rv (by omega) ?_
                              refine x_aload_n (pc := 205) hC dX11_foretell_205 rfl ?_
                              refine x_getO (pc := 206) hC gf_X11_74 dX11_foretell_206 (fx_ta hx2) (fx_re hx2).1 ?_
                              refine x_getO (pc := 209) hC gf_X11_279 dX11_foretell_209 (fx_re hx2).2.1.1 g3 ?_
                              refine x_getO (pc := 212) hC (gp_X11_133 g6) dX11_foretell_212 rfl g7 ?_
                              refine x_iload_n (pc := 215) hC dX11_foretell_215 rfl ?_
                              refine x_bipush (pc := 216) hC dX11_foretell_216 (by decide) ?_
                              refine x_isubW (pc := 218) hC dX11_foretell_218 rv (by decide) (fun v2 r2 e8 => ?_)
                              refine x_mS (pc := 219) hC cs_X11_152 dX11_foretell_219 (c_elementOr g8.1 ⟨g8n.1, Int.le_trans g8n.2 (by decide)⟩ r2) rfl (by decide) rfl rfl (Nat.le_of_ble_eq_true rfl) ?_
                              dsimp only [Option.toList, List.cons_append, List.nil_append]
                              refine x_iret (pc := 222) hC rfl dX11_foretell_222 ?_
                              rw [if_neg t95_0, if_neg t95_1, if_neg t95_2, if_neg t95_3, if_neg t95_4, if_neg t95_5, (sub_10 r2 e8 (hv.resolve_left (not05 t95_0 t95_1 t95_2 t95_3 t95_4 t95_5))).1, hatL v2 (sub_10 r2 e8 (hv.resolve_left (not05 t95_0 t95_1 t95_2 t95_3 t95_4 t95_5))).2 r2]
                              exact ⟨rfl, hfr2.tr f2, z2, A, w, h2⟩
                · rw [hF]
                  dsimp only
                  have wx := rl_wo h2 (Int.le_of_lt hx9.1) hx9.2
                  have kx := wx.2.2.2.1
                  have hwk : axE G YX6_commitAtWork 0 [vR (a + 189)] T2 N2 I2 R2 z2' (some (vR (A x))) I2 := by
                    have := c_commitAtWork (G := G) (T := T2) (N := N2) (I := I2) (R := R2) (z := z2') (fx_re hx2).2.1 (by rw [g1]; constructor <;> omega)
                    rw [g1, if_pos hat9, hR9] at this
                    exact this
                  refine x_istore (pc := 92) hC dX11_foretell_92 (Nat.le_of_ble_eq_true rfl) ?_
                  dsimp only [List.set]
                  refine x_iload_n (pc := 94) hC dX11_foretell_94 rfl ?_
                  by_cases t95_0 : v = 0
                  · refine x_tswIn (pc := 95) hC 132 dX11_foretell_95 rv (by omega) (by omega) (by rw [t95_0]; rfl) (by decide) ?_
                    refine x_iload (pc := 132) hC dX11_foretell_132 rfl ?_
                    refine x_iret (pc := 134) hC rfl dX11_foretell_134 ?_
                    rw [if_pos t95_0, if_neg (fun h9 => by rw [h9] at hx9; exact absurd hx9.1 (by decide))]
                    exact ⟨rfl, hfr2.tr f2, z2, A, w, h2⟩
                  · skip
                    by_cases t95_1 : v = 1
                    · refine x_tswIn (pc := 95) hC 135 dX11_foretell_95 rv (by omega) (by omega) (by rw [t95_1]; rfl) (by decide) ?_
                      refine x_aload_n (pc := 135) hC dX11_foretell_135 rfl ?_
                      refine x_getO (pc := 136) hC gf_X11_74 dX11_foretell_136 (fx_ta hx2) (fx_re hx2).1 ?_
                      refine x_getO (pc := 139) hC gf_X11_210 dX11_foretell_139 (fx_re hx2).2.1.1 (fx_re hx2).2.1.2.2.2.1.1 ?_
                      refine x_iconst (pc := 142) hC dX11_foretell_142 ?_
                      refine x_iald (pc := 143) hC dX11_foretell_143 (fx_re hx2).2.1.2.2.2.1.2.1 (by omega) (by rw [(fx_re hx2).2.1.2.2.2.1.2.2]; omega) ?_
                      refine x_iret (pc := 144) hC rfl dX11_foretell_144 ?_
                      rw [if_neg t95_0, if_pos t95_1, show I2 (a + 192 + 2) 0 = ma from g0m]
                      exact ⟨rfl, hfr2.tr f2, z2, A, w, h2⟩
                    · skip
                      by_cases t95_2 : v = 2
                      · refine x_tswIn (pc := 95) hC 145 dX11_foretell_95 rv (by omega) (by omega) (by rw [t95_2]; rfl) (by decide) ?_
                        refine x_aload_n (pc := 145) hC dX11_foretell_145 rfl ?_
                        refine x_getO (pc := 146) hC gf_X11_74 dX11_foretell_146 (fx_ta hx2) (fx_re hx2).1 ?_
                        refine x_getO (pc := 149) hC gf_X11_210 dX11_foretell_149 (fx_re hx2).2.1.1 (fx_re hx2).2.1.2.2.2.1.1 ?_
                        refine x_iconst (pc := 152) hC dX11_foretell_152 ?_
                        refine x_iald (pc := 153) hC dX11_foretell_153 (fx_re hx2).2.1.2.2.2.1.2.1 (by omega) (by rw [(fx_re hx2).2.1.2.2.2.1.2.2]; omega) ?_
                        refine x_iret (pc := 154) hC rfl dX11_foretell_154 ?_
                        rw [if_neg t95_0, if_neg t95_1, if_pos t95_2, show I2 (a + 192 + 2) 1 = lv from g0l]
                        exact ⟨rfl, hfr2.tr f2, z2, A, w, h2⟩
                      · skip
                        by_cases t95_3 : v = 3
                        · refine x_tswIn (pc := 95) hC 155 dX11_foretell_95 rv (by omega) (by omega) (by rw [t95_3]; rfl) (by decide) ?_
                          refine x_iload (pc := 155) hC dX11_foretell_155 rfl ?_
                          refine x_if_ne (pc := 157) hC 165 dX11_foretell_157 (by decide) (by omega) (fun b157 => ?_) (fun b157 => ?_)
                          · refine x_aload_n (pc := 165) hC dX11_foretell_165 rfl ?_
                            refine x_getO (pc := 166) hC gf_X11_74 dX11_foretell_166 (fx_ta hx2) (fx_re hx2).1 ?_
                            refine x_mV (pc := 169) hC cv_X11_273 dX11_foretell_169 hwk (fx_re hx2).2.1.1 rfl (by decide) rfl rfl (Nat.le_of_ble_eq_true rfl) ?_
                            dsimp only [Option.toList, List.cons_append, List.nil_append]
                            refine x_getI (pc := 172) hC (gp_X11_120 kx) dX11_foretell_172 rfl ?_
                            refine x_iret (pc := 175) hC rfl dX11_foretell_175 ?_
                            rw [if_neg t95_0, if_neg t95_1, if_neg t95_2, if_pos t95_3, wx.2.2.2.2]
                            exact ⟨rfl, hfr2.tr f2, z2, A, w, h2⟩
                          · exact absurd (by first | exact b157 | exact Decidable.of_not_not b157) hs0
                        · skip
                          by_cases t95_4 : v = 4
                          · refine x_tswIn (pc := 95) hC 176 dX11_foretell_95 rv (by omega) (by omega) (by rw [t95_4]; rfl) (by decide) ?_
                            refine x_iload (pc := 176) hC dX11_foretell_176 rfl ?_
                            refine x_if_ne (pc := 178) hC 185 dX11_foretell_178 (by decide) (by omega) (fun b178 => ?_) (fun b178 => ?_)
                            · refine x_aload_n (pc := 185) hC dX11_foretell_185 rfl ?_
                              refine x_getO (pc := 186) hC gf_X11_36 dX11_foretell_186 (fx_ta hx2) (fx_mg hx2).1 ?_
                              refine x_getI (pc := 189) hC gf_X11_219 dX11_foretell_189 (fx_mg hx2).2.1 ?_
                              refine x_iret (pc := 192) hC rfl dX11_foretell_192 ?_
                              rw [if_neg t95_0, if_neg t95_1, if_neg t95_2, if_neg t95_3, if_pos t95_4, hI9]
                              exact ⟨rfl, hfr2.tr f2, z2, A, w, h2⟩
                            · exact absurd (by first | exact b178 | exact Decidable.of_not_not b178) hs0
                          · skip
                            by_cases t95_5 : v = 5
                            · refine x_tswIn (pc := 95) hC 193 dX11_foretell_95 rv (by omega) (by omega) (by rw [t95_5]; rfl) (by decide) ?_
                              refine x_aload_n (pc := 193) hC dX11_foretell_193 rfl ?_
                              refine x_getO (pc := 194) hC gf_X11_74 dX11_foretell_194 (fx_ta hx2) (fx_re hx2).1 ?_
                              refine x_getO (pc := 197) hC gf_X11_279 dX11_foretell_197 (fx_re hx2).2.1.1 g3 ?_
                              refine x_getO (pc := 200) hC (gp_X11_133 g6) dX11_foretell_200 rfl g7 ?_
                              refine x_alen (pc := 203) hC dX11_foretell_203 (by rw [g8.1]; decide) (by rw [g8.1]; decide) ?_
                              refine x_iret (pc := 204) hC rfl dX11_foretell_204 ?_
                              rw [if_neg t95_0, if_neg t95_1, if_neg t95_2, if_neg t95_3, if_neg t95_4, if_pos t95_5, g10]
                              exact ⟨rfl, hfr2.tr f2, z2, A, w, h2⟩
                            · skip
                              refine x_tswOut (pc := 95) hC 205 dX11_foretell_95 (by decide) rv (by omega) ?_
                              refine x_aload_n (pc := 205) hC dX11_foretell_205 rfl ?_
                              refine x_getO (pc := 206) hC gf_X11_74 dX11_foretell_206 (fx_ta hx2) (fx_re hx2).1 ?_
                              refine x_getO (pc := 209) hC gf_X11_279 dX11_foretell_209 (fx_re hx2).2.1.1 g3 ?_
                              refine x_getO (pc := 212) hC (gp_X11_133 g6) dX11_foretell_212 rfl g7 ?_
                              refine x_iload_n (pc := 215) hC dX11_foretell_215 rfl ?_
                              refine x_bipush (pc := 216) hC dX11_foretell_216 (by decide) ?_
                              refine x_isubW (pc := 218) hC dX11_foretell_218 rv (by decide) (fun v2 r2 e8 => ?_)
                              refine x_mS (pc := 219) hC cs_X11_152 dX11_foretell_219 (c_elementOr g8.1 ⟨g8n.1, Int.le_trans g8n.2 (by decide)⟩ r2) rfl (by decide) rfl rfl (Nat.le_of_ble_eq_true rfl) ?_
                              dsimp only [Option.toList, List.cons_append, List.nil_append]
                              refine x_iret (pc := 222) hC rfl dX11_foretell_222 ?_
                              rw [if_neg t95_0, if_neg t95_1, if_neg t95_2, if_neg t95_3, if_neg t95_4, if_neg t95_5, (sub_10 r2 e8 (hv.resolve_left (not05 t95_0 t95_1 t95_2 t95_3 t95_4 t95_5))).1, hatL v2 (sub_10 r2 e8 (hv.resolve_left (not05 t95_0 t95_1 t95_2 t95_3 t95_4 t95_5))).2 r2]
                              exact ⟨rfl, hfr2.tr f2, z2, A, w, h2⟩
                
              · refine x_iload_n (pc := 35) hC dX11_foretell_35 rfl ?_
                refine x_bipush (pc := 36) hC dX11_foretell_36 (by decide) ?_
                refine x_isubW (pc := 38) hC dX11_foretell_38 rv (by decide) (fun v1 r1 e9 => ?_)
                refine x_mS (pc := 39) hC cs_X11_149 dX11_foretell_39 (c_isLineIndex r1) rfl (by decide) rfl rfl (Nat.le_of_ble_eq_true rfl) ?_
                dsimp only [Option.toList, List.cons_append, List.nil_append]
                refine x_ifB_ne (pc := 42) hC 48 dX11_foretell_42 (by decide) (fun b42 => ?_) (fun b42 => ?_)
                · refine x_aload_n (pc := 48) hC dX11_foretell_48 rfl ?_
                  refine x_mV (pc := 49) hC cv_X11_89 dX11_foretell_49 hu (fx_ta hx) rfl (by decide) rfl rfl (Nat.le_of_ble_eq_true rfl) ?_
                  dsimp only [Option.toList, List.cons_append, List.nil_append]
                  refine x_if_eq (pc := 52) hC 58 dX11_foretell_52 (by decide) (by decide) (fun _ => ?_) (fun h => absurd rfl h)
                  refine x_aload_n (pc := 58) hC dX11_foretell_58 rfl ?_
                  refine x_aload (pc := 59) hC dX11_foretell_59 rfl ?_
                  refine x_aload (pc := 61) hC dX11_foretell_61 rfl ?_
                  refine x_mV (pc := 63) hC cv_X11_241 dX11_foretell_63 hlr (fx_ta hx) rfl (by decide) rfl rfl (Nat.le_of_ble_eq_true rfl) ?_
                  dsimp only [Option.toList, List.cons_append, List.nil_append]
                  refine x_if_eq (pc := 66) hC 72 dX11_foretell_66 (by decide) (by decide) (fun _ => ?_) (fun h => absurd rfl h)
                  refine x_aload_n (pc := 72) hC dX11_foretell_72 rfl ?_
                  refine x_getO (pc := 73) hC gf_X11_74 dX11_foretell_73 (fx_ta hx) (fx_re hx).1 ?_
                  refine x_iload_n (pc := 76) hC dX11_foretell_76 rfl ?_
                  refine x_aload (pc := 77) hC dX11_foretell_77 rfl ?_
                  refine x_aload (pc := 79) hC dX11_foretell_79 rfl ?_
                  refine x_rV (pc := 81) hC cv_X11_249 dX11_foretell_81 (c_begin (rl_cs h) (fx_re hx).2.1 ⟨by omega, fun d d0 d1 => by have := (rl_cc h d d0 d1).2.2.2.2.2.2.2; have := (fx_nl hx).2; omega⟩ ht hc (path_len hI ht) (path_len hI hc)) (fx_re hx).2.1.1 rfl (by decide) rfl rfl (Nat.le_of_ble_eq_true rfl) ?_
                  rintro v9 J2 S2 ⟨rfl, ⟨⟨u1, u2, u3⟩, u4, u5, u6⟩, ⟨v1, v2, v3, v4⟩, l1, l2⟩
                  dsimp only [Option.toList, List.nil_append]
                  have sB : scK T N a I J2 R S2 := sc_rh (fun q hq => ⟨u5 q (by omega) (by omega), v4 q (by omega) (by omega) (by omega)⟩) v3
                  have hB := rl_sc h sB
                  have hxB := rl_fx hB
                  have wc := rl_wo hB hc.1 hc.2
                  have rowc := rl_row hB hc.1 hc.2
                  have acc := (rl_cc hB c hc.1 hc.2).2.2.2.2.2.2
                  have nlx := (fx_nl hx).2
                  have hlc : ((rowL σ o c).length : Int) = σ (o + 6) c := rowL_len hI.2.1 c
                  have hh : Rh T N J2 S2 a A c ((path (σ (o + 2)) (σ (o + 7) b)).filter (fun y => decide (y ∉ path (σ (o + 2)) c))) ((path (σ (o + 2)) c).filter (fun y => decide (y ∉ path (σ (o + 2)) (σ (o + 7) b)))) (A c) (w c) (rowL σ o c) 0 0 (((tdL σ o b c).length : Int) - 1) := ⟨⟨by rw [u2, hll], u3⟩, ⟨v1, v2⟩, l1, l2, ⟨u6 0 (by omega) (by omega), u6 1 (by omega) (by omega)⟩, ⟨wc.2.2.2.1, wc.2.2.1, wc.1, rowc.1, by rw [rowc.2, hlc], by omega⟩, ⟨Int.le_refl _, Or.inl ⟨rfl, rfl⟩⟩⟩
                  have hcar := c_carryR (F := fore σ o b c (tdL σ o b c) (rowL σ o c) 0 0) hB hI hR hz0 hb hc rfl rfl hh rfl
                  have hfr2 := fro_sc sB b1
                  refine x_aload_n (pc := 84) hC dX11_foretell_84 rfl ?_
                  refine x_aload_n (pc := 85) hC dX11_foretell_85 rfl ?_
                  refine x_getO (pc := 86) hC gf_X11_74 dX11_foretell_86 (fx_ta hx) (fx_re hxB).1 ?_
                  refine x_callV (pc := 89) hC cv_X11_253 dX11_foretell_89 hcar (fx_ta hx) rfl (by decide) (by omega) (by omega) rfl rfl (Nat.le_of_ble_eq_true rfl) (fun r9 T2 N2 I2 R2 z2' hq => ?_)
                  obtain ⟨s, tt, r, L, ma, lv, at_, rfl, f2, z2, h2, hh2, hs9, hF9⟩ := hq
                  dsimp only [Option.toList, List.cons_append, List.nil_append]
                  have hx2 := rl_fx h2
                  obtain ⟨⟨g1, g1b⟩, ⟨g2, g3⟩, g4, g5, ⟨g0m, g0l⟩, ⟨g6, g7, g8, g9, g10, g11⟩, -⟩ := hh2
                  have g8n := g8.2.1
                  obtain ⟨F, hFF⟩ : ∃ F, F = fore σ o b c (tdL σ o b c) (rowL σ o c) 0 0 := ⟨_, rfl⟩
                  rw [← hFF] at hF9 ⊢
                  have hatL : ∀ i : Int, 0 ≤ i → ax_r i → atO L i = (if 0 ≤ i ∧ i < N2 r then I2 r i else -9) := fun i hi _ => by
                    have := atO_seg (f := I2 r) (i := 0) (j := N2 r) (k := i) g8n.1 hi
                    rw [g9] at this
                    rw [this, Int.zero_add, Int.sub_zero]
                    by_cases e : i < N2 r
                    · rw [if_pos e, if_pos ⟨hi, e⟩]
                    · rw [if_neg e, if_neg (fun h9 => e h9.2)]
                  unfold ftV
                  rcases hF9 with ⟨hs0, hF⟩ | ⟨hs0, x, op, hF, hx9, hat9, hR9, hI9⟩
                  · rw [hF]
                    dsimp only
                    refine x_istore (pc := 92) hC dX11_foretell_92 (Nat.le_of_ble_eq_true rfl) ?_
                    dsimp only [List.set]
                    refine x_iload_n (pc := 94) hC dX11_foretell_94 rfl ?_
                    by_cases t95_0 : v = 0
                    · refine x_tswIn (pc := 95) hC 132 dX11_foretell_95 rv (by omega) (by omega) (by rw [t95_0]; rfl) (by decide) ?_
                      refine x_iload (pc := 132) hC dX11_foretell_132 rfl ?_
                      refine x_iret (pc := 134) hC rfl dX11_foretell_134 ?_
                      rw [if_pos t95_0, if_pos rfl, hs0]
                      exact ⟨rfl, hfr2.tr f2, z2, A, w, h2⟩
                    · skip
                      by_cases t95_1 : v = 1
                      · refine x_tswIn (pc := 95) hC 135 dX11_foretell_95 rv (by omega) (by omega) (by rw [t95_1]; rfl) (by decide) ?_
                        refine x_aload_n (pc := 135) hC dX11_foretell_135 rfl ?_
                        refine x_getO (pc := 136) hC gf_X11_74 dX11_foretell_136 (fx_ta hx2) (fx_re hx2).1 ?_
                        refine x_getO (pc := 139) hC gf_X11_210 dX11_foretell_139 (fx_re hx2).2.1.1 (fx_re hx2).2.1.2.2.2.1.1 ?_
                        refine x_iconst (pc := 142) hC dX11_foretell_142 ?_
                        refine x_iald (pc := 143) hC dX11_foretell_143 (fx_re hx2).2.1.2.2.2.1.2.1 (by omega) (by rw [(fx_re hx2).2.1.2.2.2.1.2.2]; omega) ?_
                        skip
                        refine x_iret (pc := 144) hC rfl dX11_foretell_144 ?_
                        rw [if_neg t95_0, if_pos t95_1, show I2 (a + 192 + 2) 0 = ma from g0m]
                        exact ⟨rfl, hfr2.tr f2, z2, A, w, h2⟩
                      · skip
                        by_cases t95_2 : v = 2
                        · refine x_tswIn (pc := 95) hC 145 dX11_foretell_95 rv (by omega) (by omega) (by rw [t95_2]; rfl) (by decide) ?_
                          refine x_aload_n (pc := 145) hC dX11_foretell_145 rfl ?_
                          refine x_getO (pc := 146) hC gf_X11_74 dX11_foretell_146 (fx_ta hx2) (fx_re hx2).1 ?_
                          refine x_getO (pc := 149) hC gf_X11_210 dX11_foretell_149 (fx_re hx2).2.1.1 (fx_re hx2).2.1.2.2.2.1.1 ?_
                          refine x_iconst (pc := 152) hC dX11_foretell_152 ?_
                          refine x_iald (pc := 153) hC dX11_foretell_153 (fx_re hx2).2.1.2.2.2.1.2.1 (by omega) (by rw [(fx_re hx2).2.1.2.2.2.1.2.2]; omega) ?_
                          refine x_iret (pc := 154) hC rfl dX11_foretell_154 ?_
                          rw [if_neg t95_0, if_neg t95_1, if_pos t95_2, show I2 (a + 192 + 2) 1 = lv from g0l]
                          exact ⟨rfl, hfr2.tr f2, z2, A, w, h2⟩
                        · skip
                          by_cases t95_3 : v = 3
                          · refine x_tswIn (pc := 95) hC 155 dX11_foretell_95 rv (by omega) (by omega) (by rw [t95_3]; rfl) (by decide) ?_
                            refine x_iload (pc := 155) hC dX11_foretell_155 rfl ?_
                            refine x_if_ne (pc := 157) hC 165 dX11_foretell_157 (by decide) (by omega) (fun b157 => ?_) (fun b157 => ?_)
                            · exact absurd hs0 b157
                            · refine x_bipush (pc := 160) hC dX11_foretell_160 (by decide) ?_
                              refine x_goto (pc := 162) hC 175 dX11_foretell_162 (by decide) ?_
                              refine x_iret (pc := 175) hC rfl dX11_foretell_175 ?_
                              rw [if_neg t95_0, if_neg t95_1, if_neg t95_2, if_pos t95_3]
                              exact ⟨rfl, hfr2.tr f2, z2, A, w, h2⟩
                          · skip
                            by_cases t95_4 : v = 4
                            · refine x_tswIn (pc := 95) hC 176 dX11_foretell_95 rv (by omega) (by omega) (by rw [t95_4]; rfl) (by decide) ?_
                              refine x_iload (pc := 176) hC dX11_foretell_176 rfl ?_
                              refine x_if_ne (pc := 178) hC 185 dX11_foretell_178 (by decide) (by omega) (fun b178 => ?_) (fun b178 => ?_)
                              · exact absurd hs0 b178
                              · refine x_iconst (pc := 181) hC dX11_foretell_181 ?_
                                refine x_goto (pc := 182) hC 192 dX11_foretell_182 (by decide) ?_
                                refine x_iret (pc := 192) hC rfl dX11_foretell_192 ?_
                                rw [if_neg t95_0, if_neg t95_1, if_neg t95_2, if_neg t95_3, if_pos t95_4]
                                exact ⟨rfl, hfr2.tr f2, z2, A, w, h2⟩
                            · skip
                              by_cases t95_5 : v = 5
                              · refine x_tswIn (pc := 95) hC 193 dX11_foretell_95 rv (by omega) (by omega) (by rw [t95_5]; rfl) (by decide) ?_
                                refine x_aload_n (pc := 193) hC dX11_foretell_193 rfl ?_
                                refine x_getO (pc := 194) hC gf_X11_74 dX11_foretell_194 (fx_ta hx2) (fx_re hx2).1 ?_
                                refine x_getO (pc := 197) hC gf_X11_279 dX11_foretell_197 (fx_re hx2).2.1.1 g3 ?_
                                refine x_getO (pc := 200) hC (gp_X11_133 g6) dX11_foretell_200 rfl g7 ?_
                                refine x_alen (pc := 203) hC dX11_foretell_203 (by rw [g8.1]; decide) (by rw [g8.1]; decide) ?_
                                refine x_iret (pc := 204) hC rfl dX11_foretell_204 ?_
                                rw [if_neg t95_0, if_neg t95_1, if_neg t95_2, if_neg t95_3, if_neg t95_4, if_pos t95_5, g10]
                                exact ⟨rfl, hfr2.tr f2, z2, A, w, h2⟩
                              · skip
                                refine x_tswOut (pc := 95) hC 205 dX11_foretell_95 (by decide) rv (by omega) ?_
                                refine x_aload_n (pc := 205) hC dX11_foretell_205 rfl ?_
                                refine x_getO (pc := 206) hC gf_X11_74 dX11_foretell_206 (fx_ta hx2) (fx_re hx2).1 ?_
                                refine x_getO (pc := 209) hC gf_X11_279 dX11_foretell_209 (fx_re hx2).2.1.1 g3 ?_
                                refine x_getO (pc := 212) hC (gp_X11_133 g6) dX11_foretell_212 rfl g7 ?_
                                refine x_iload_n (pc := 215) hC dX11_foretell_215 rfl ?_
                                refine x_bipush (pc := 216) hC dX11_foretell_216 (by decide) ?_
                                refine x_isubW (pc := 218) hC dX11_foretell_218 rv (by decide) (fun v2 r2 e8 => ?_)
                                refine x_mS (pc := 219) hC cs_X11_152 dX11_foretell_219 (c_elementOr g8.1 ⟨g8n.1, Int.le_trans g8n.2 (by decide)⟩ r2) rfl (by decide) rfl rfl (Nat.le_of_ble_eq_true rfl) ?_
                                dsimp only [Option.toList, List.cons_append, List.nil_append]
                                refine x_iret (pc := 222) hC rfl dX11_foretell_222 ?_
                                rw [if_neg t95_0, if_neg t95_1, if_neg t95_2, if_neg t95_3, if_neg t95_4, if_neg t95_5, (sub_10 r2 e8 (hv.resolve_left (not05 t95_0 t95_1 t95_2 t95_3 t95_4 t95_5))).1, hatL v2 (sub_10 r2 e8 (hv.resolve_left (not05 t95_0 t95_1 t95_2 t95_3 t95_4 t95_5))).2 r2]
                                exact ⟨rfl, hfr2.tr f2, z2, A, w, h2⟩
                  · rw [hF]
                    dsimp only
                    have wx := rl_wo h2 (Int.le_of_lt hx9.1) hx9.2
                    have kx := wx.2.2.2.1
                    have hwk : axE G YX6_commitAtWork 0 [vR (a + 189)] T2 N2 I2 R2 z2' (some (vR (A x))) I2 := by
                      have := c_commitAtWork (G := G) (T := T2) (N := N2) (I := I2) (R := R2) (z := z2') (fx_re hx2).2.1 (by rw [g1]; constructor <;> omega)
                      rw [g1, if_pos hat9, hR9] at this
                      exact this
                    refine x_istore (pc := 92) hC dX11_foretell_92 (Nat.le_of_ble_eq_true rfl) ?_
                    dsimp only [List.set]
                    refine x_iload_n (pc := 94) hC dX11_foretell_94 rfl ?_
                    by_cases t95_0 : v = 0
                    · refine x_tswIn (pc := 95) hC 132 dX11_foretell_95 rv (by omega) (by omega) (by rw [t95_0]; rfl) (by decide) ?_
                      refine x_iload (pc := 132) hC dX11_foretell_132 rfl ?_
                      refine x_iret (pc := 134) hC rfl dX11_foretell_134 ?_
                      rw [if_pos t95_0, if_neg (fun h9 => by rw [h9] at hx9; exact absurd hx9.1 (by decide))]
                      exact ⟨rfl, hfr2.tr f2, z2, A, w, h2⟩
                    · skip
                      by_cases t95_1 : v = 1
                      · refine x_tswIn (pc := 95) hC 135 dX11_foretell_95 rv (by omega) (by omega) (by rw [t95_1]; rfl) (by decide) ?_
                        refine x_aload_n (pc := 135) hC dX11_foretell_135 rfl ?_
                        refine x_getO (pc := 136) hC gf_X11_74 dX11_foretell_136 (fx_ta hx2) (fx_re hx2).1 ?_
                        refine x_getO (pc := 139) hC gf_X11_210 dX11_foretell_139 (fx_re hx2).2.1.1 (fx_re hx2).2.1.2.2.2.1.1 ?_
                        refine x_iconst (pc := 142) hC dX11_foretell_142 ?_
                        refine x_iald (pc := 143) hC dX11_foretell_143 (fx_re hx2).2.1.2.2.2.1.2.1 (by omega) (by rw [(fx_re hx2).2.1.2.2.2.1.2.2]; omega) ?_
                        refine x_iret (pc := 144) hC rfl dX11_foretell_144 ?_
                        rw [if_neg t95_0, if_pos t95_1, show I2 (a + 192 + 2) 0 = ma from g0m]
                        exact ⟨rfl, hfr2.tr f2, z2, A, w, h2⟩
                      · skip
                        by_cases t95_2 : v = 2
                        · refine x_tswIn (pc := 95) hC 145 dX11_foretell_95 rv (by omega) (by omega) (by rw [t95_2]; rfl) (by decide) ?_
                          refine x_aload_n (pc := 145) hC dX11_foretell_145 rfl ?_
                          refine x_getO (pc := 146) hC gf_X11_74 dX11_foretell_146 (fx_ta hx2) (fx_re hx2).1 ?_
                          refine x_getO (pc := 149) hC gf_X11_210 dX11_foretell_149 (fx_re hx2).2.1.1 (fx_re hx2).2.1.2.2.2.1.1 ?_
                          refine x_iconst (pc := 152) hC dX11_foretell_152 ?_
                          refine x_iald (pc := 153) hC dX11_foretell_153 (fx_re hx2).2.1.2.2.2.1.2.1 (by omega) (by rw [(fx_re hx2).2.1.2.2.2.1.2.2]; omega) ?_
                          refine x_iret (pc := 154) hC rfl dX11_foretell_154 ?_
                          rw [if_neg t95_0, if_neg t95_1, if_pos t95_2, show I2 (a + 192 + 2) 1 = lv from g0l]
                          exact ⟨rfl, hfr2.tr f2, z2, A, w, h2⟩
                        · skip
                          by_cases t95_3 : v = 3
                          · refine x_tswIn (pc := 95) hC 155 dX11_foretell_95 rv (by omega) (by omega) (by rw [t95_3]; rfl) (by decide) ?_
                            refine x_iload (pc := 155) hC dX11_foretell_155 rfl ?_
                            refine x_if_ne (pc := 157) hC 165 dX11_foretell_157 (by decide) (by omega) (fun b157 => ?_) (fun b157 => ?_)
                            · refine x_aload_n (pc := 165) hC dX11_foretell_165 rfl ?_
                              refine x_getO (pc := 166) hC gf_X11_74 dX11_foretell_166 (fx_ta hx2) (fx_re hx2).1 ?_
                              refine x_mV (pc := 169) hC cv_X11_273 dX11_foretell_169 hwk (fx_re hx2).2.1.1 rfl (by decide) rfl rfl (Nat.le_of_ble_eq_true rfl) ?_
                              dsimp only [Option.toList, List.cons_append, List.nil_append]
                              refine x_getI (pc := 172) hC (gp_X11_120 kx) dX11_foretell_172 rfl ?_
                              refine x_iret (pc := 175) hC rfl dX11_foretell_175 ?_
                              rw [if_neg t95_0, if_neg t95_1, if_neg t95_2, if_pos t95_3, wx.2.2.2.2]
                              exact ⟨rfl, hfr2.tr f2, z2, A, w, h2⟩
                            · exact absurd (by first | exact b157 | exact Decidable.of_not_not b157) hs0
                          · skip
                            by_cases t95_4 : v = 4
                            · refine x_tswIn (pc := 95) hC 176 dX11_foretell_95 rv (by omega) (by omega) (by rw [t95_4]; rfl) (by decide) ?_
                              refine x_iload (pc := 176) hC dX11_foretell_176 rfl ?_
                              refine x_if_ne (pc := 178) hC 185 dX11_foretell_178 (by decide) (by omega) (fun b178 => ?_) (fun b178 => ?_)
                              · refine x_aload_n (pc := 185) hC dX11_foretell_185 rfl ?_
                                refine x_getO (pc := 186) hC gf_X11_36 dX11_foretell_186 (fx_ta hx2) (fx_mg hx2).1 ?_
                                refine x_getI (pc := 189) hC gf_X11_219 dX11_foretell_189 (fx_mg hx2).2.1 ?_
                                refine x_iret (pc := 192) hC rfl dX11_foretell_192 ?_
                                rw [if_neg t95_0, if_neg t95_1, if_neg t95_2, if_neg t95_3, if_pos t95_4, hI9]
                                exact ⟨rfl, hfr2.tr f2, z2, A, w, h2⟩
                              · exact absurd (by first | exact b178 | exact Decidable.of_not_not b178) hs0
                            · skip
                              by_cases t95_5 : v = 5
                              · refine x_tswIn (pc := 95) hC 193 dX11_foretell_95 rv (by omega) (by omega) (by rw [t95_5]; rfl) (by decide) ?_
                                refine x_aload_n (pc := 193) hC dX11_foretell_193 rfl ?_
                                refine x_getO (pc := 194) hC gf_X11_74 dX11_foretell_194 (fx_ta hx2) (fx_re hx2).1 ?_
                                refine x_getO (pc := 197) hC gf_X11_279 dX11_foretell_197 (fx_re hx2).2.1.1 g3 ?_
                                refine x_getO (pc := 200) hC (gp_X11_133 g6) dX11_foretell_200 rfl g7 ?_
                                refine x_alen (pc := 203) hC dX11_foretell_203 (by rw [g8.1]; decide) (by rw [g8.1]; decide) ?_
                                refine x_iret (pc := 204) hC rfl dX11_foretell_204 ?_
                                rw [if_neg t95_0, if_neg t95_1, if_neg t95_2, if_neg t95_3, if_neg t95_4, if_pos t95_5, g10]
                                exact ⟨rfl, hfr2.tr f2, z2, A, w, h2⟩
                              · skip
                                refine x_tswOut (pc := 95) hC 205 dX11_foretell_95 (by decide) rv (by omega) ?_
                                refine x_aload_n (pc := 205) hC dX11_foretell_205 rfl ?_
                                refine x_getO (pc := 206) hC gf_X11_74 dX11_foretell_206 (fx_ta hx2) (fx_re hx2).1 ?_
                                refine x_getO (pc := 209) hC gf_X11_279 dX11_foretell_209 (fx_re hx2).2.1.1 g3 ?_
                                refine x_getO (pc := 212) hC (gp_X11_133 g6) dX11_foretell_212 rfl g7 ?_
                                refine x_iload_n (pc := 215) hC dX11_foretell_215 rfl ?_
                                refine x_bipush (pc := 216) hC dX11_foretell_216 (by decide) ?_
                                refine x_isubW (pc := 218) hC dX11_foretell_218 rv (by decide) (fun v2 r2 e8 => ?_)
                                refine x_mS (pc := 219) hC cs_X11_152 dX11_foretell_219 (c_elementOr g8.1 ⟨g8n.1, Int.le_trans g8n.2 (by decide)⟩ r2) rfl (by decide) rfl rfl (Nat.le_of_ble_eq_true rfl) ?_
                                dsimp only [Option.toList, List.cons_append, List.nil_append]
                                refine x_iret (pc := 222) hC rfl dX11_foretell_222 ?_
                                rw [if_neg t95_0, if_neg t95_1, if_neg t95_2, if_neg t95_3, if_neg t95_4, if_neg t95_5, (sub_10 r2 e8 (hv.resolve_left (not05 t95_0 t95_1 t95_2 t95_3 t95_4 t95_5))).1, hatL v2 (sub_10 r2 e8 (hv.resolve_left (not05 t95_0 t95_1 t95_2 t95_3 t95_4 t95_5))).2 r2]
                                exact ⟨rfl, hfr2.tr f2, z2, A, w, h2⟩
                  
                · exfalso; omega
          · rw [if_neg hrm]
            rw [bI_t (show I a 2 + (((path (σ (o + 2)) (σ (o + 7) b)).filter (fun y => decide (y ∉ path (σ (o + 2)) c))).length : Int) > 24 by rw [hn9, ← hll]; omega)] at hlr
            refine x_aload_n (pc := 0) hC dX11_foretell_0 rfl ?_
            refine x_iload_n (pc := 1) hC dX11_foretell_1 rfl ?_
            refine x_mV (pc := 2) hC cv_X11_81 dX11_foretell_2 (rl_tip h hb) (fx_ta hx) rfl (by decide) rfl rfl (Nat.le_of_ble_eq_true rfl) ?_
            dsimp only [Option.toList, List.cons_append, List.nil_append]
            refine x_astore (pc := 5) hC dX11_foretell_5 (Nat.le_of_ble_eq_true rfl) ?_
            dsimp only [List.set]
            refine x_aload_n (pc := 7) hC dX11_foretell_7 rfl ?_
            refine x_iload_n (pc := 8) hC dX11_foretell_8 rfl ?_
            refine x_mV (pc := 9) hC cv_X11_123 dX11_foretell_9 (rl_at h hI hc) (fx_ta hx) rfl (by decide) rfl rfl (Nat.le_of_ble_eq_true rfl) ?_
            dsimp only [Option.toList, List.cons_append, List.nil_append]
            refine x_astore (pc := 12) hC dX11_foretell_12 (Nat.le_of_ble_eq_true rfl) ?_
            dsimp only [List.set]
            refine x_aload (pc := 14) hC dX11_foretell_14 rfl ?_
            refine x_ifnull (pc := 16) hC 24 dX11_foretell_16 (by decide) (fun h => by cases h) (fun _ _ => ?_)
            refine x_aload (pc := 19) hC dX11_foretell_19 rfl ?_
            refine x_ifnonnull (pc := 21) hC 26 dX11_foretell_21 (by decide) (fun _ _ => ?_) (fun h => by cases h)
            refine x_iload_n (pc := 26) hC dX11_foretell_26 rfl ?_
            refine x_if_lt (pc := 27) hC 35 dX11_foretell_27 (by decide) (by omega) (fun b27 => ?_) (fun b27 => ?_)
            · refine x_iload_n (pc := 35) hC dX11_foretell_35 rfl ?_
              refine x_bipush (pc := 36) hC dX11_foretell_36 (by decide) ?_
              refine x_isubW (pc := 38) hC dX11_foretell_38 rv (by decide) (fun v1 r1 e9 => ?_)
              refine x_mS (pc := 39) hC cs_X11_149 dX11_foretell_39 (c_isLineIndex r1) rfl (by decide) rfl rfl (Nat.le_of_ble_eq_true rfl) ?_
              dsimp only [Option.toList, List.cons_append, List.nil_append]
              refine x_ifB_ne (pc := 42) hC 48 dX11_foretell_42 (by decide) (fun b42 => ?_) (fun b42 => ?_)
              · refine x_aload_n (pc := 48) hC dX11_foretell_48 rfl ?_
                refine x_mV (pc := 49) hC cv_X11_89 dX11_foretell_49 hu (fx_ta hx) rfl (by decide) rfl rfl (Nat.le_of_ble_eq_true rfl) ?_
                dsimp only [Option.toList, List.cons_append, List.nil_append]
                refine x_if_eq (pc := 52) hC 58 dX11_foretell_52 (by decide) (by decide) (fun _ => ?_) (fun h => absurd rfl h)
                refine x_aload_n (pc := 58) hC dX11_foretell_58 rfl ?_
                refine x_aload (pc := 59) hC dX11_foretell_59 rfl ?_
                refine x_aload (pc := 61) hC dX11_foretell_61 rfl ?_
                refine x_mV (pc := 63) hC cv_X11_241 dX11_foretell_63 hlr (fx_ta hx) rfl (by decide) rfl rfl (Nat.le_of_ble_eq_true rfl) ?_
                dsimp only [Option.toList, List.cons_append, List.nil_append]
                refine x_if_eq (pc := 66) hC 72 dX11_foretell_66 (by decide) (by decide) (fun h => absurd h (by decide)) (fun _ => ?_)
                refine x_bipush (pc := 69) hC dX11_foretell_69 (by decide) ?_
                refine x_iret (pc := 71) hC rfl dX11_foretell_71 ?_
                exact rl_p0 h
              · exfalso; omega
            · refine x_iload_n (pc := 30) hC dX11_foretell_30 rfl ?_
              refine x_iconst (pc := 31) hC dX11_foretell_31 ?_
              refine x_icmp_le (pc := 32) hC 48 dX11_foretell_32 (by decide) (by omega) (by omega) (fun b32 => ?_) (fun b32 => ?_)
              · refine x_aload_n (pc := 48) hC dX11_foretell_48 rfl ?_
                refine x_mV (pc := 49) hC cv_X11_89 dX11_foretell_49 hu (fx_ta hx) rfl (by decide) rfl rfl (Nat.le_of_ble_eq_true rfl) ?_
                dsimp only [Option.toList, List.cons_append, List.nil_append]
                refine x_if_eq (pc := 52) hC 58 dX11_foretell_52 (by decide) (by decide) (fun _ => ?_) (fun h => absurd rfl h)
                refine x_aload_n (pc := 58) hC dX11_foretell_58 rfl ?_
                refine x_aload (pc := 59) hC dX11_foretell_59 rfl ?_
                refine x_aload (pc := 61) hC dX11_foretell_61 rfl ?_
                refine x_mV (pc := 63) hC cv_X11_241 dX11_foretell_63 hlr (fx_ta hx) rfl (by decide) rfl rfl (Nat.le_of_ble_eq_true rfl) ?_
                dsimp only [Option.toList, List.cons_append, List.nil_append]
                refine x_if_eq (pc := 66) hC 72 dX11_foretell_66 (by decide) (by decide) (fun h => absurd h (by decide)) (fun _ => ?_)
                refine x_bipush (pc := 69) hC dX11_foretell_69 (by decide) ?_
                refine x_iret (pc := 71) hC rfl dX11_foretell_71 ?_
                exact rl_p0 h
              · refine x_iload_n (pc := 35) hC dX11_foretell_35 rfl ?_
                refine x_bipush (pc := 36) hC dX11_foretell_36 (by decide) ?_
                refine x_isubW (pc := 38) hC dX11_foretell_38 rv (by decide) (fun v1 r1 e9 => ?_)
                refine x_mS (pc := 39) hC cs_X11_149 dX11_foretell_39 (c_isLineIndex r1) rfl (by decide) rfl rfl (Nat.le_of_ble_eq_true rfl) ?_
                dsimp only [Option.toList, List.cons_append, List.nil_append]
                refine x_ifB_ne (pc := 42) hC 48 dX11_foretell_42 (by decide) (fun b42 => ?_) (fun b42 => ?_)
                · refine x_aload_n (pc := 48) hC dX11_foretell_48 rfl ?_
                  refine x_mV (pc := 49) hC cv_X11_89 dX11_foretell_49 hu (fx_ta hx) rfl (by decide) rfl rfl (Nat.le_of_ble_eq_true rfl) ?_
                  dsimp only [Option.toList, List.cons_append, List.nil_append]
                  refine x_if_eq (pc := 52) hC 58 dX11_foretell_52 (by decide) (by decide) (fun _ => ?_) (fun h => absurd rfl h)
                  refine x_aload_n (pc := 58) hC dX11_foretell_58 rfl ?_
                  refine x_aload (pc := 59) hC dX11_foretell_59 rfl ?_
                  refine x_aload (pc := 61) hC dX11_foretell_61 rfl ?_
                  refine x_mV (pc := 63) hC cv_X11_241 dX11_foretell_63 hlr (fx_ta hx) rfl (by decide) rfl rfl (Nat.le_of_ble_eq_true rfl) ?_
                  dsimp only [Option.toList, List.cons_append, List.nil_append]
                  refine x_if_eq (pc := 66) hC 72 dX11_foretell_66 (by decide) (by decide) (fun h => absurd h (by decide)) (fun _ => ?_)
                  refine x_bipush (pc := 69) hC dX11_foretell_69 (by decide) ?_
                  refine x_iret (pc := 71) hC rfl dX11_foretell_71 ?_
                  exact rl_p0 h
                · exfalso; omega
        · rw [if_neg h40]
          rw [bI_t (show I (a + 183) 8 ≠ 0 by rw [h8]; exact h40)] at hu
          refine x_aload_n (pc := 0) hC dX11_foretell_0 rfl ?_
          refine x_iload_n (pc := 1) hC dX11_foretell_1 rfl ?_
          refine x_mV (pc := 2) hC cv_X11_81 dX11_foretell_2 (rl_tip h hb) (fx_ta hx) rfl (by decide) rfl rfl (Nat.le_of_ble_eq_true rfl) ?_
          dsimp only [Option.toList, List.cons_append, List.nil_append]
          refine x_astore (pc := 5) hC dX11_foretell_5 (Nat.le_of_ble_eq_true rfl) ?_
          dsimp only [List.set]
          refine x_aload_n (pc := 7) hC dX11_foretell_7 rfl ?_
          refine x_iload_n (pc := 8) hC dX11_foretell_8 rfl ?_
          refine x_mV (pc := 9) hC cv_X11_123 dX11_foretell_9 (rl_at h hI hc) (fx_ta hx) rfl (by decide) rfl rfl (Nat.le_of_ble_eq_true rfl) ?_
          dsimp only [Option.toList, List.cons_append, List.nil_append]
          refine x_astore (pc := 12) hC dX11_foretell_12 (Nat.le_of_ble_eq_true rfl) ?_
          dsimp only [List.set]
          refine x_aload (pc := 14) hC dX11_foretell_14 rfl ?_
          refine x_ifnull (pc := 16) hC 24 dX11_foretell_16 (by decide) (fun h => by cases h) (fun _ _ => ?_)
          refine x_aload (pc := 19) hC dX11_foretell_19 rfl ?_
          refine x_ifnonnull (pc := 21) hC 26 dX11_foretell_21 (by decide) (fun _ _ => ?_) (fun h => by cases h)
          refine x_iload_n (pc := 26) hC dX11_foretell_26 rfl ?_
          refine x_if_lt (pc := 27) hC 35 dX11_foretell_27 (by decide) (by omega) (fun b27 => ?_) (fun b27 => ?_)
          · refine x_iload_n (pc := 35) hC dX11_foretell_35 rfl ?_
            refine x_bipush (pc := 36) hC dX11_foretell_36 (by decide) ?_
            refine x_isubW (pc := 38) hC dX11_foretell_38 rv (by decide) (fun v1 r1 e9 => ?_)
            refine x_mS (pc := 39) hC cs_X11_149 dX11_foretell_39 (c_isLineIndex r1) rfl (by decide) rfl rfl (Nat.le_of_ble_eq_true rfl) ?_
            dsimp only [Option.toList, List.cons_append, List.nil_append]
            refine x_ifB_ne (pc := 42) hC 48 dX11_foretell_42 (by decide) (fun b42 => ?_) (fun b42 => ?_)
            · refine x_aload_n (pc := 48) hC dX11_foretell_48 rfl ?_
              refine x_mV (pc := 49) hC cv_X11_89 dX11_foretell_49 hu (fx_ta hx) rfl (by decide) rfl rfl (Nat.le_of_ble_eq_true rfl) ?_
              dsimp only [Option.toList, List.cons_append, List.nil_append]
              refine x_if_eq (pc := 52) hC 58 dX11_foretell_52 (by decide) (by decide) (fun h => absurd h (by decide)) (fun _ => ?_)
              refine x_bipush (pc := 55) hC dX11_foretell_55 (by decide) ?_
              refine x_iret (pc := 57) hC rfl dX11_foretell_57 ?_
              exact rl_p0 h
            · exfalso; omega
          · refine x_iload_n (pc := 30) hC dX11_foretell_30 rfl ?_
            refine x_iconst (pc := 31) hC dX11_foretell_31 ?_
            refine x_icmp_le (pc := 32) hC 48 dX11_foretell_32 (by decide) (by omega) (by omega) (fun b32 => ?_) (fun b32 => ?_)
            · refine x_aload_n (pc := 48) hC dX11_foretell_48 rfl ?_
              refine x_mV (pc := 49) hC cv_X11_89 dX11_foretell_49 hu (fx_ta hx) rfl (by decide) rfl rfl (Nat.le_of_ble_eq_true rfl) ?_
              dsimp only [Option.toList, List.cons_append, List.nil_append]
              refine x_if_eq (pc := 52) hC 58 dX11_foretell_52 (by decide) (by decide) (fun h => absurd h (by decide)) (fun _ => ?_)
              refine x_bipush (pc := 55) hC dX11_foretell_55 (by decide) ?_
              refine x_iret (pc := 57) hC rfl dX11_foretell_57 ?_
              exact rl_p0 h
            · refine x_iload_n (pc := 35) hC dX11_foretell_35 rfl ?_
              refine x_bipush (pc := 36) hC dX11_foretell_36 (by decide) ?_
              refine x_isubW (pc := 38) hC dX11_foretell_38 rv (by decide) (fun v1 r1 e9 => ?_)
              refine x_mS (pc := 39) hC cs_X11_149 dX11_foretell_39 (c_isLineIndex r1) rfl (by decide) rfl rfl (Nat.le_of_ble_eq_true rfl) ?_
              dsimp only [Option.toList, List.cons_append, List.nil_append]
              refine x_ifB_ne (pc := 42) hC 48 dX11_foretell_42 (by decide) (fun b42 => ?_) (fun b42 => ?_)
              · refine x_aload_n (pc := 48) hC dX11_foretell_48 rfl ?_
                refine x_mV (pc := 49) hC cv_X11_89 dX11_foretell_49 hu (fx_ta hx) rfl (by decide) rfl rfl (Nat.le_of_ble_eq_true rfl) ?_
                dsimp only [Option.toList, List.cons_append, List.nil_append]
                refine x_if_eq (pc := 52) hC 58 dX11_foretell_52 (by decide) (by decide) (fun h => absurd h (by decide)) (fun _ => ?_)
                refine x_bipush (pc := 55) hC dX11_foretell_55 (by decide) ?_
                refine x_iret (pc := 57) hC rfl dX11_foretell_57 ?_
                exact rl_p0 h
              · exfalso; omega
      · rw [if_neg hv]
        refine x_aload_n (pc := 0) hC dX11_foretell_0 rfl ?_
        refine x_iload_n (pc := 1) hC dX11_foretell_1 rfl ?_
        refine x_mV (pc := 2) hC cv_X11_81 dX11_foretell_2 (rl_tip h hb) (fx_ta hx) rfl (by decide) rfl rfl (Nat.le_of_ble_eq_true rfl) ?_
        dsimp only [Option.toList, List.cons_append, List.nil_append]
        refine x_astore (pc := 5) hC dX11_foretell_5 (Nat.le_of_ble_eq_true rfl) ?_
        dsimp only [List.set]
        refine x_aload_n (pc := 7) hC dX11_foretell_7 rfl ?_
        refine x_iload_n (pc := 8) hC dX11_foretell_8 rfl ?_
        refine x_mV (pc := 9) hC cv_X11_123 dX11_foretell_9 (rl_at h hI hc) (fx_ta hx) rfl (by decide) rfl rfl (Nat.le_of_ble_eq_true rfl) ?_
        dsimp only [Option.toList, List.cons_append, List.nil_append]
        refine x_astore (pc := 12) hC dX11_foretell_12 (Nat.le_of_ble_eq_true rfl) ?_
        dsimp only [List.set]
        refine x_aload (pc := 14) hC dX11_foretell_14 rfl ?_
        refine x_ifnull (pc := 16) hC 24 dX11_foretell_16 (by decide) (fun h => by cases h) (fun _ _ => ?_)
        refine x_aload (pc := 19) hC dX11_foretell_19 rfl ?_
        refine x_ifnonnull (pc := 21) hC 26 dX11_foretell_21 (by decide) (fun _ _ => ?_) (fun h => by cases h)
        refine x_iload_n (pc := 26) hC dX11_foretell_26 rfl ?_
        refine x_if_lt (pc := 27) hC 35 dX11_foretell_27 (by decide) (by omega) (fun b27 => ?_) (fun b27 => ?_)
        · refine x_iload_n (pc := 35) hC dX11_foretell_35 rfl ?_
          refine x_bipush (pc := 36) hC dX11_foretell_36 (by decide) ?_
          refine x_isubW (pc := 38) hC dX11_foretell_38 rv (by decide) (fun v1 r1 e9 => ?_)
          refine x_mS (pc := 39) hC cs_X11_149 dX11_foretell_39 (c_isLineIndex r1) rfl (by decide) rfl rfl (Nat.le_of_ble_eq_true rfl) ?_
          dsimp only [Option.toList, List.cons_append, List.nil_append]
          refine x_ifB_ne (pc := 42) hC 48 dX11_foretell_42 (by decide) (fun b42 => ?_) (fun b42 => ?_)
          · exfalso; omega
          · refine x_bipush (pc := 45) hC dX11_foretell_45 (by decide) ?_
            refine x_iret (pc := 47) hC rfl dX11_foretell_47 ?_
            exact rl_p0 h
        · refine x_iload_n (pc := 30) hC dX11_foretell_30 rfl ?_
          refine x_iconst (pc := 31) hC dX11_foretell_31 ?_
          refine x_icmp_le (pc := 32) hC 48 dX11_foretell_32 (by decide) (by omega) (by omega) (fun b32 => ?_) (fun b32 => ?_)
          · exfalso; omega
          · refine x_iload_n (pc := 35) hC dX11_foretell_35 rfl ?_
            refine x_bipush (pc := 36) hC dX11_foretell_36 (by decide) ?_
            refine x_isubW (pc := 38) hC dX11_foretell_38 rv (by decide) (fun v1 r1 e9 => ?_)
            refine x_mS (pc := 39) hC cs_X11_149 dX11_foretell_39 (c_isLineIndex r1) rfl (by decide) rfl rfl (Nat.le_of_ble_eq_true rfl) ?_
            dsimp only [Option.toList, List.cons_append, List.nil_append]
            refine x_ifB_ne (pc := 42) hC 48 dX11_foretell_42 (by decide) (fun b42 => ?_) (fun b42 => ?_)
            · exfalso; omega
            · refine x_bipush (pc := 45) hC dX11_foretell_45 (by decide) ?_
              refine x_iret (pc := 47) hC rfl dX11_foretell_47 ?_
              exact rl_p0 h
    · rw [if_neg (fun h9 => hc h9.2)]
      refine x_aload_n (pc := 0) hC dX11_foretell_0 rfl ?_
      refine x_iload_n (pc := 1) hC dX11_foretell_1 rfl ?_
      refine x_mV (pc := 2) hC cv_X11_81 dX11_foretell_2 (rl_tip h hb) (fx_ta hx) rfl (by decide) rfl rfl (Nat.le_of_ble_eq_true rfl) ?_
      dsimp only [Option.toList, List.cons_append, List.nil_append]
      refine x_astore (pc := 5) hC dX11_foretell_5 (Nat.le_of_ble_eq_true rfl) ?_
      dsimp only [List.set]
      refine x_aload_n (pc := 7) hC dX11_foretell_7 rfl ?_
      refine x_iload_n (pc := 8) hC dX11_foretell_8 rfl ?_
      refine x_mV (pc := 9) hC cv_X11_123 dX11_foretell_9 (rl_no h hI rc hc) (fx_ta hx) rfl (by decide) rfl rfl (Nat.le_of_ble_eq_true rfl) ?_
      dsimp only [Option.toList, List.cons_append, List.nil_append]
      refine x_astore (pc := 12) hC dX11_foretell_12 (Nat.le_of_ble_eq_true rfl) ?_
      dsimp only [List.set]
      refine x_aload (pc := 14) hC dX11_foretell_14 rfl ?_
      refine x_ifnull (pc := 16) hC 24 dX11_foretell_16 (by decide) (fun h => by cases h) (fun _ _ => ?_)
      refine x_aload (pc := 19) hC dX11_foretell_19 rfl ?_
      refine x_ifnonnull (pc := 21) hC 26 dX11_foretell_21 (by decide) (fun _ h => by cases h) (fun _ => ?_)
      refine x_iconst (pc := 24) hC dX11_foretell_24 ?_
      refine x_iret (pc := 25) hC rfl dX11_foretell_25 ?_
      exact rl_p0 h
  · rw [if_neg (fun h9 => hb h9.1)]
    refine x_aload_n (pc := 0) hC dX11_foretell_0 rfl ?_
    refine x_iload_n (pc := 1) hC dX11_foretell_1 rfl ?_
    refine x_mV (pc := 2) hC cv_X11_81 dX11_foretell_2 (rl_nt h rb hb) (fx_ta hx) rfl (by decide) rfl rfl (Nat.le_of_ble_eq_true rfl) ?_
    dsimp only [Option.toList, List.cons_append, List.nil_append]
    refine x_astore (pc := 5) hC dX11_foretell_5 (Nat.le_of_ble_eq_true rfl) ?_
    dsimp only [List.set]
    refine x_aload_n (pc := 7) hC dX11_foretell_7 rfl ?_
    refine x_iload_n (pc := 8) hC dX11_foretell_8 rfl ?_
    refine x_mV (pc := 9) hC cv_X11_123 dX11_foretell_9 (c_commitAt hx (c := c) rc (by omega)) (fx_ta hx) rfl (by decide) rfl rfl (Nat.le_of_ble_eq_true rfl) ?_
    dsimp only [Option.toList, List.cons_append, List.nil_append]
    refine x_astore (pc := 12) hC dX11_foretell_12 (Nat.le_of_ble_eq_true rfl) ?_
    dsimp only [List.set]
    refine x_aload (pc := 14) hC dX11_foretell_14 rfl ?_
    refine x_ifnull (pc := 16) hC 24 dX11_foretell_16 (by decide) (fun _ => ?_) (fun _ h => by cases h)
    refine x_iconst (pc := 24) hC dX11_foretell_24 ?_
    refine x_iret (pc := 25) hC rfl dX11_foretell_25 ?_
    exact rl_p0 h

