/-! THE CLASS: status and conflict -/
set_option maxHeartbeats 4000000 in
set_option maxRecDepth 100000 in
theorem c_status {G : ax_G} {T : Nat → Nat} {N : Nat → Int} {I : Nat → Int → Int} {R : Nat → Int → Option Nat} {z a o : Nat} {σ : Nat → Int → Int} {A w : Int → Nat} (h : RelA G T N I R z a o σ A w) (hI : miC σ o) (hR : miR σ o) (hS : rpS σ o) {v : Int} (rv : ax_r v) : axR G YX11_status 5 [vR a, vI v] T N I R z (fun r1 I1 R1 => r1 = some (vI (stR σ o v)) ∧ scK T N a I I1 R R1) := by
  refine ax_enter (by decide) (Nat.le_of_ble_eq_true rfl) (ax_cat rfl) (fun f hC => ?_)
  show axX G f 0 0 _ 0 [vR a, vI v, vU] [] T N I R z 0 0
  have hx := rl_fx h
  have h8 := rl_st h
  have hs2 := hS.1
  have hu := c_isUnderWay (G := G) (I := I) hx (by rw [h8]; constructor <;> omega)
  have hms := c_mergeAtStop (wd := -9) h hI hR hS (by decide)
  unfold stR
  by_cases h40 : σ o 40 = 0
  · rw [bI_f (show ¬ (I (a + 183) 8 ≠ 0) by rw [h8, h40]; decide)] at hu
    refine x_iload_n (pc := 0) hC dX11_status_0 rfl ?_
    refine x_if_lt (pc := 1) hC 10 dX11_status_1 (by decide) (by omega) (fun b1 => ?_) (fun b1 => ?_)
    · refine x_bipush (pc := 10) hC dX11_status_10 (by decide) ?_
      refine x_iret (pc := 12) hC rfl dX11_status_12 ?_
      refine ⟨⟨?_, scK.rf⟩, rfl, rfl, rfl⟩
      rw [if_neg (by omega)]
    · refine x_iload_n (pc := 4) hC dX11_status_4 rfl ?_
      refine x_bipush (pc := 5) hC dX11_status_5 (by decide) ?_
      refine x_icmp_le (pc := 7) hC 13 dX11_status_7 (by decide) (by omega) (by omega) (fun b7 => ?_) (fun b7 => ?_)
      · refine x_iload_n (pc := 13) hC dX11_status_13 rfl ?_
        refine x_iconst (pc := 14) hC dX11_status_14 ?_
        refine x_icmp_lt (pc := 15) hC 35 dX11_status_15 (by decide) (by omega) (by omega) (fun b15 => ?_) (fun b15 => ?_)
        · refine x_aload_n (pc := 35) hC dX11_status_35 rfl ?_
          refine x_mV (pc := 36) hC cv_X11_89 dX11_status_36 hu (fx_ta hx) rfl (by decide) rfl rfl (Nat.le_of_ble_eq_true rfl) ?_
          dsimp only [Option.toList, List.cons_append, List.nil_append]
          refine x_if_ne (pc := 39) hC 46 dX11_status_39 (by decide) (by decide) (fun h => absurd rfl h) (fun _ => ?_)
          refine x_iconst (pc := 42) hC dX11_status_42 ?_
          refine x_goto (pc := 43) hC 47 dX11_status_43 (by decide) ?_
          refine x_istore_n (pc := 47) hC dX11_status_47 (Nat.le_of_ble_eq_true rfl) ?_
          dsimp only [List.set]
          refine x_iload_n (pc := 48) hC dX11_status_48 rfl ?_
          by_cases t49_0 : v = 0
          · refine x_tswIn (pc := 49) hC 96 dX11_status_49 rv (by omega) (by omega) (by rw [t49_0]; rfl) (by decide) ?_
            refine x_aload_n (pc := 96) hC dX11_status_96 rfl ?_
            refine x_getO (pc := 97) hC gf_X11_64 dX11_status_97 (fx_ta hx) (fx_cu hx).1 ?_
            refine x_getI (pc := 100) hC gf_X11_270 dX11_status_100 (fx_cu hx).2.1.1 ?_
            refine x_iret (pc := 103) hC rfl dX11_status_103 ?_
            refine ⟨⟨?_, scK.rf⟩, rfl, rfl, rfl⟩
            rw [if_pos (by omega), if_neg (by omega), if_pos h40, if_pos (by omega), h8, h40]
          · skip
            by_cases t49_1 : v = 1
            · refine x_tswIn (pc := 49) hC 104 dX11_status_49 rv (by omega) (by omega) (by rw [t49_1]; rfl) (by decide) ?_
              refine x_iload_n (pc := 104) hC dX11_status_104 rfl ?_
              refine x_if_eq (pc := 105) hC 113 dX11_status_105 (by decide) (by decide) (fun h => absurd h (by decide)) (fun _ => ?_)
              refine x_bipush (pc := 108) hC dX11_status_108 (by decide) ?_
              refine x_goto (pc := 110) hC 123 dX11_status_110 (by decide) ?_
              refine x_iret (pc := 123) hC rfl dX11_status_123 ?_
              refine ⟨⟨?_, scK.rf⟩, rfl, rfl, rfl⟩
              rw [if_pos (by omega), if_neg (by omega), if_pos h40, if_neg (by omega)]
            · skip
              by_cases t49_2 : v = 2
              · refine x_tswIn (pc := 49) hC 161 dX11_status_49 rv (by omega) (by omega) (by rw [t49_2]; rfl) (by decide) ?_
                refine x_iload_n (pc := 161) hC dX11_status_161 rfl ?_
                refine x_if_eq (pc := 162) hC 170 dX11_status_162 (by decide) (by decide) (fun h => absurd h (by decide)) (fun _ => ?_)
                refine x_bipush (pc := 165) hC dX11_status_165 (by decide) ?_
                refine x_goto (pc := 167) hC 180 dX11_status_167 (by decide) ?_
                refine x_iret (pc := 180) hC rfl dX11_status_180 ?_
                refine ⟨⟨?_, scK.rf⟩, rfl, rfl, rfl⟩
                first
                | (exfalso; omega)
                | (rw [if_pos (by omega), if_neg (by omega), if_pos h40, if_neg (by omega)])
              · skip
                by_cases t49_3 : v = 3
                · refine x_tswIn (pc := 49) hC 161 dX11_status_49 rv (by omega) (by omega) (by rw [t49_3]; rfl) (by decide) ?_
                  refine x_iload_n (pc := 161) hC dX11_status_161 rfl ?_
                  refine x_if_eq (pc := 162) hC 170 dX11_status_162 (by decide) (by decide) (fun h => absurd h (by decide)) (fun _ => ?_)
                  refine x_bipush (pc := 165) hC dX11_status_165 (by decide) ?_
                  refine x_goto (pc := 167) hC 180 dX11_status_167 (by decide) ?_
                  refine x_iret (pc := 180) hC rfl dX11_status_180 ?_
                  refine ⟨⟨?_, scK.rf⟩, rfl, rfl, rfl⟩
                  first
                  | (exfalso; omega)
                  | (rw [if_pos (by omega), if_neg (by omega), if_pos h40, if_neg (by omega)])
                · skip
                  by_cases t49_4 : v = 4
                  · refine x_tswIn (pc := 49) hC 161 dX11_status_49 rv (by omega) (by omega) (by rw [t49_4]; rfl) (by decide) ?_
                    refine x_iload_n (pc := 161) hC dX11_status_161 rfl ?_
                    refine x_if_eq (pc := 162) hC 170 dX11_status_162 (by decide) (by decide) (fun h => absurd h (by decide)) (fun _ => ?_)
                    refine x_bipush (pc := 165) hC dX11_status_165 (by decide) ?_
                    refine x_goto (pc := 167) hC 180 dX11_status_167 (by decide) ?_
                    refine x_iret (pc := 180) hC rfl dX11_status_180 ?_
                    refine ⟨⟨?_, scK.rf⟩, rfl, rfl, rfl⟩
                    first
                    | (exfalso; omega)
                    | (rw [if_pos (by omega), if_neg (by omega), if_pos h40, if_neg (by omega)])
                  · skip
                    by_cases t49_5 : v = 5
                    · refine x_tswIn (pc := 49) hC 161 dX11_status_49 rv (by omega) (by omega) (by rw [t49_5]; rfl) (by decide) ?_
                      refine x_iload_n (pc := 161) hC dX11_status_161 rfl ?_
                      refine x_if_eq (pc := 162) hC 170 dX11_status_162 (by decide) (by decide) (fun h => absurd h (by decide)) (fun _ => ?_)
                      refine x_bipush (pc := 165) hC dX11_status_165 (by decide) ?_
                      refine x_goto (pc := 167) hC 180 dX11_status_167 (by decide) ?_
                      refine x_iret (pc := 180) hC rfl dX11_status_180 ?_
                      refine ⟨⟨?_, scK.rf⟩, rfl, rfl, rfl⟩
                      first
                      | (exfalso; omega)
                      | (rw [if_pos (by omega), if_neg (by omega), if_pos h40, if_neg (by omega)])
                    · skip
                      by_cases t49_6 : v = 6
                      · refine x_tswIn (pc := 49) hC 124 dX11_status_49 rv (by omega) (by omega) (by rw [t49_6]; rfl) (by decide) ?_
                        refine x_iload_n (pc := 124) hC dX11_status_124 rfl ?_
                        refine x_if_eq (pc := 125) hC 132 dX11_status_125 (by decide) (by decide) (fun h => absurd h (by decide)) (fun _ => ?_)
                        refine x_iconst (pc := 128) hC dX11_status_128 ?_
                        refine x_goto (pc := 129) hC 139 dX11_status_129 (by decide) ?_
                        refine x_iret (pc := 139) hC rfl dX11_status_139 ?_
                        refine ⟨⟨?_, scK.rf⟩, rfl, rfl, rfl⟩
                        rw [if_pos (by omega), if_neg (by omega), if_pos h40, if_pos (by omega)]
                      · skip
                        by_cases t49_7 : v = 7
                        · refine x_tswIn (pc := 49) hC 140 dX11_status_49 rv (by omega) (by omega) (by rw [t49_7]; rfl) (by decide) ?_
                          refine x_aload_n (pc := 140) hC dX11_status_140 rfl ?_
                          refine x_bipush (pc := 141) hC dX11_status_141 (by decide) ?_
                          refine x_rV (pc := 143) hC cv_X11_276 dX11_status_143 hms (fx_ta hx) rfl (by decide) rfl rfl (Nat.le_of_ble_eq_true rfl) ?_
                          rintro v9 J S hq
                          have hq2 : v9 = some (vI 0) ∧ J = I ∧ S = R := by
                            rcases hq with ⟨-, y1, y2, y3⟩ | ⟨h41, -⟩
                            · exact ⟨y1, y2, y3⟩
                            · exact absurd h40 h41
                          obtain ⟨rfl, rfl, rfl⟩ := hq2
                          dsimp only [Option.toList, List.cons_append, List.nil_append]
                          refine x_if_eq (pc := 146) hC 159 dX11_status_146 (by decide) (by decide) (fun _ => ?_) (fun h => absurd rfl h)
                          refine x_iconst (pc := 159) hC dX11_status_159 ?_
                          refine x_iret (pc := 160) hC rfl dX11_status_160 ?_
                          refine ⟨⟨?_, scK.rf⟩, rfl, rfl, rfl⟩
                          rw [if_pos (by omega), if_neg (by omega), if_pos h40, if_pos (by omega)]
                        · skip
                          refine x_tswOut (pc := 49) hC 161 dX11_status_49 (by decide) rv (by omega) ?_
                          refine x_iload_n (pc := 161) hC dX11_status_161 rfl ?_
                          refine x_if_eq (pc := 162) hC 170 dX11_status_162 (by decide) (by decide) (fun h => absurd h (by decide)) (fun _ => ?_)
                          refine x_bipush (pc := 165) hC dX11_status_165 (by decide) ?_
                          refine x_goto (pc := 167) hC 180 dX11_status_167 (by decide) ?_
                          refine x_iret (pc := 180) hC rfl dX11_status_180 ?_
                          refine ⟨⟨?_, scK.rf⟩, rfl, rfl, rfl⟩
                          first
                          | (exfalso; omega)
                          | (rw [if_pos (by omega), if_neg (by omega), if_pos h40, if_neg (by omega)])
        · refine x_iload_n (pc := 18) hC dX11_status_18 rfl ?_
          refine x_iconst (pc := 19) hC dX11_status_19 ?_
          refine x_icmp_gt (pc := 20) hC 35 dX11_status_20 (by decide) (by omega) (by omega) (fun b20 => ?_) (fun b20 => ?_)
          · refine x_aload_n (pc := 35) hC dX11_status_35 rfl ?_
            refine x_mV (pc := 36) hC cv_X11_89 dX11_status_36 hu (fx_ta hx) rfl (by decide) rfl rfl (Nat.le_of_ble_eq_true rfl) ?_
            dsimp only [Option.toList, List.cons_append, List.nil_append]
            refine x_if_ne (pc := 39) hC 46 dX11_status_39 (by decide) (by decide) (fun h => absurd rfl h) (fun _ => ?_)
            refine x_iconst (pc := 42) hC dX11_status_42 ?_
            refine x_goto (pc := 43) hC 47 dX11_status_43 (by decide) ?_
            refine x_istore_n (pc := 47) hC dX11_status_47 (Nat.le_of_ble_eq_true rfl) ?_
            dsimp only [List.set]
            refine x_iload_n (pc := 48) hC dX11_status_48 rfl ?_
            by_cases t49_0 : v = 0
            · refine x_tswIn (pc := 49) hC 96 dX11_status_49 rv (by omega) (by omega) (by rw [t49_0]; rfl) (by decide) ?_
              refine x_aload_n (pc := 96) hC dX11_status_96 rfl ?_
              refine x_getO (pc := 97) hC gf_X11_64 dX11_status_97 (fx_ta hx) (fx_cu hx).1 ?_
              refine x_getI (pc := 100) hC gf_X11_270 dX11_status_100 (fx_cu hx).2.1.1 ?_
              refine x_iret (pc := 103) hC rfl dX11_status_103 ?_
              refine ⟨⟨?_, scK.rf⟩, rfl, rfl, rfl⟩
              rw [if_pos (by omega), if_neg (by omega), if_pos h40, if_pos (by omega), h8, h40]
            · skip
              by_cases t49_1 : v = 1
              · refine x_tswIn (pc := 49) hC 104 dX11_status_49 rv (by omega) (by omega) (by rw [t49_1]; rfl) (by decide) ?_
                refine x_iload_n (pc := 104) hC dX11_status_104 rfl ?_
                refine x_if_eq (pc := 105) hC 113 dX11_status_105 (by decide) (by decide) (fun h => absurd h (by decide)) (fun _ => ?_)
                refine x_bipush (pc := 108) hC dX11_status_108 (by decide) ?_
                refine x_goto (pc := 110) hC 123 dX11_status_110 (by decide) ?_
                refine x_iret (pc := 123) hC rfl dX11_status_123 ?_
                refine ⟨⟨?_, scK.rf⟩, rfl, rfl, rfl⟩
                rw [if_pos (by omega), if_neg (by omega), if_pos h40, if_neg (by omega)]
              · skip
                by_cases t49_2 : v = 2
                · refine x_tswIn (pc := 49) hC 161 dX11_status_49 rv (by omega) (by omega) (by rw [t49_2]; rfl) (by decide) ?_
                  refine x_iload_n (pc := 161) hC dX11_status_161 rfl ?_
                  refine x_if_eq (pc := 162) hC 170 dX11_status_162 (by decide) (by decide) (fun h => absurd h (by decide)) (fun _ => ?_)
                  refine x_bipush (pc := 165) hC dX11_status_165 (by decide) ?_
                  refine x_goto (pc := 167) hC 180 dX11_status_167 (by decide) ?_
                  refine x_iret (pc := 180) hC rfl dX11_status_180 ?_
                  refine ⟨⟨?_, scK.rf⟩, rfl, rfl, rfl⟩
                  first
                  | (exfalso; omega)
                  | (rw [if_pos (by omega), if_neg (by omega), if_pos h40, if_neg (by omega)])
                · skip
                  by_cases t49_3 : v = 3
                  · refine x_tswIn (pc := 49) hC 161 dX11_status_49 rv (by omega) (by omega) (by rw [t49_3]; rfl) (by decide) ?_
                    refine x_iload_n (pc := 161) hC dX11_status_161 rfl ?_
                    refine x_if_eq (pc := 162) hC 170 dX11_status_162 (by decide) (by decide) (fun h => absurd h (by decide)) (fun _ => ?_)
                    refine x_bipush (pc := 165) hC dX11_status_165 (by decide) ?_
                    refine x_goto (pc := 167) hC 180 dX11_status_167 (by decide) ?_
                    refine x_iret (pc := 180) hC rfl dX11_status_180 ?_
                    refine ⟨⟨?_, scK.rf⟩, rfl, rfl, rfl⟩
                    first
                    | (exfalso; omega)
                    | (rw [if_pos (by omega), if_neg (by omega), if_pos h40, if_neg (by omega)])
                  · skip
                    by_cases t49_4 : v = 4
                    · refine x_tswIn (pc := 49) hC 161 dX11_status_49 rv (by omega) (by omega) (by rw [t49_4]; rfl) (by decide) ?_
                      refine x_iload_n (pc := 161) hC dX11_status_161 rfl ?_
                      refine x_if_eq (pc := 162) hC 170 dX11_status_162 (by decide) (by decide) (fun h => absurd h (by decide)) (fun _ => ?_)
                      refine x_bipush (pc := 165) hC dX11_status_165 (by decide) ?_
                      refine x_goto (pc := 167) hC 180 dX11_status_167 (by decide) ?_
                      refine x_iret (pc := 180) hC rfl dX11_status_180 ?_
                      refine ⟨⟨?_, scK.rf⟩, rfl, rfl, rfl⟩
                      first
                      | (exfalso; omega)
                      | (rw [if_pos (by omega), if_neg (by omega), if_pos h40, if_neg (by omega)])
                    · skip
                      by_cases t49_5 : v = 5
                      · refine x_tswIn (pc := 49) hC 161 dX11_status_49 rv (by omega) (by omega) (by rw [t49_5]; rfl) (by decide) ?_
                        refine x_iload_n (pc := 161) hC dX11_status_161 rfl ?_
                        refine x_if_eq (pc := 162) hC 170 dX11_status_162 (by decide) (by decide) (fun h => absurd h (by decide)) (fun _ => ?_)
                        refine x_bipush (pc := 165) hC dX11_status_165 (by decide) ?_
                        refine x_goto (pc := 167) hC 180 dX11_status_167 (by decide) ?_
                        refine x_iret (pc := 180) hC rfl dX11_status_180 ?_
                        refine ⟨⟨?_, scK.rf⟩, rfl, rfl, rfl⟩
                        first
                        | (exfalso; omega)
                        | (rw [if_pos (by omega), if_neg (by omega), if_pos h40, if_neg (by omega)])
                      · skip
                        by_cases t49_6 : v = 6
                        · refine x_tswIn (pc := 49) hC 124 dX11_status_49 rv (by omega) (by omega) (by rw [t49_6]; rfl) (by decide) ?_
                          refine x_iload_n (pc := 124) hC dX11_status_124 rfl ?_
                          refine x_if_eq (pc := 125) hC 132 dX11_status_125 (by decide) (by decide) (fun h => absurd h (by decide)) (fun _ => ?_)
                          refine x_iconst (pc := 128) hC dX11_status_128 ?_
                          refine x_goto (pc := 129) hC 139 dX11_status_129 (by decide) ?_
                          refine x_iret (pc := 139) hC rfl dX11_status_139 ?_
                          refine ⟨⟨?_, scK.rf⟩, rfl, rfl, rfl⟩
                          rw [if_pos (by omega), if_neg (by omega), if_pos h40, if_pos (by omega)]
                        · skip
                          by_cases t49_7 : v = 7
                          · refine x_tswIn (pc := 49) hC 140 dX11_status_49 rv (by omega) (by omega) (by rw [t49_7]; rfl) (by decide) ?_
                            refine x_aload_n (pc := 140) hC dX11_status_140 rfl ?_
                            refine x_bipush (pc := 141) hC dX11_status_141 (by decide) ?_
                            refine x_rV (pc := 143) hC cv_X11_276 dX11_status_143 hms (fx_ta hx) rfl (by decide) rfl rfl (Nat.le_of_ble_eq_true rfl) ?_
                            rintro v9 J S hq
                            have hq2 : v9 = some (vI 0) ∧ J = I ∧ S = R := by
                              rcases hq with ⟨-, y1, y2, y3⟩ | ⟨h41, -⟩
                              · exact ⟨y1, y2, y3⟩
                              · exact absurd h40 h41
                            obtain ⟨rfl, rfl, rfl⟩ := hq2
                            dsimp only [Option.toList, List.cons_append, List.nil_append]
                            refine x_if_eq (pc := 146) hC 159 dX11_status_146 (by decide) (by decide) (fun _ => ?_) (fun h => absurd rfl h)
                            refine x_iconst (pc := 159) hC dX11_status_159 ?_
                            refine x_iret (pc := 160) hC rfl dX11_status_160 ?_
                            refine ⟨⟨?_, scK.rf⟩, rfl, rfl, rfl⟩
                            rw [if_pos (by omega), if_neg (by omega), if_pos h40, if_pos (by omega)]
                          · skip
                            refine x_tswOut (pc := 49) hC 161 dX11_status_49 (by decide) rv (by omega) ?_
                            refine x_iload_n (pc := 161) hC dX11_status_161 rfl ?_
                            refine x_if_eq (pc := 162) hC 170 dX11_status_162 (by decide) (by decide) (fun h => absurd h (by decide)) (fun _ => ?_)
                            refine x_bipush (pc := 165) hC dX11_status_165 (by decide) ?_
                            refine x_goto (pc := 167) hC 180 dX11_status_167 (by decide) ?_
                            refine x_iret (pc := 180) hC rfl dX11_status_180 ?_
                            refine ⟨⟨?_, scK.rf⟩, rfl, rfl, rfl⟩
                            first
                            | (exfalso; omega)
                            | (rw [if_pos (by omega), if_neg (by omega), if_pos h40, if_neg (by omega)])
          · refine x_aload_n (pc := 23) hC dX11_status_23 rfl ?_
            refine x_getO (pc := 24) hC gf_X11_64 dX11_status_24 (fx_ta hx) (fx_cu hx).1 ?_
            refine x_getO (pc := 27) hC gf_X11_210 dX11_status_27 (fx_cu hx).2.1.1 (fx_cu hx).2.1.2.2.2.1.1 ?_
            refine x_iload_n (pc := 30) hC dX11_status_30 rfl ?_
            refine x_iconst (pc := 31) hC dX11_status_31 ?_
            refine x_isub (pc := 32) hC dX11_status_32 ?_
            refine x_iald (pc := 33) hC dX11_status_33 (fx_cu hx).2.1.2.2.2.1.2.1 (by omega) (by rw [(fx_cu hx).2.1.2.2.2.1.2.2]; omega) ?_
            refine x_iret (pc := 34) hC rfl dX11_status_34 ?_
            refine ⟨⟨?_, scK.rf⟩, rfl, rfl, rfl⟩
            rw [if_pos (by omega), if_pos (by omega)]
            exact congrArg (fun x => some (vI x)) (rl_fg h (v - 2) (by omega) (by omega))
      · refine x_bipush (pc := 10) hC dX11_status_10 (by decide) ?_
        refine x_iret (pc := 12) hC rfl dX11_status_12 ?_
        refine ⟨⟨?_, scK.rf⟩, rfl, rfl, rfl⟩
        rw [if_neg (by omega)]
  · rw [bI_t (show I (a + 183) 8 ≠ 0 by rw [h8]; exact h40)] at hu
    obtain ⟨gx, gt, -⟩ := goX_in hS h40
    have wx := rl_wo h (by omega) gx.2
    have wt := rl_wo h gt.1 gt.2
    have kx := wx.2.2.2.1
    have kt := wt.2.2.2.1
    obtain ⟨⟨-, k5, -⟩, ⟨-, ktop⟩, -⟩ := rl_rp h h40
    refine x_iload_n (pc := 0) hC dX11_status_0 rfl ?_
    refine x_if_lt (pc := 1) hC 10 dX11_status_1 (by decide) (by omega) (fun b1 => ?_) (fun b1 => ?_)
    · refine x_bipush (pc := 10) hC dX11_status_10 (by decide) ?_
      refine x_iret (pc := 12) hC rfl dX11_status_12 ?_
      refine ⟨⟨?_, scK.rf⟩, rfl, rfl, rfl⟩
      rw [if_neg (by omega)]
    · refine x_iload_n (pc := 4) hC dX11_status_4 rfl ?_
      refine x_bipush (pc := 5) hC dX11_status_5 (by decide) ?_
      refine x_icmp_le (pc := 7) hC 13 dX11_status_7 (by decide) (by omega) (by omega) (fun b7 => ?_) (fun b7 => ?_)
      · refine x_iload_n (pc := 13) hC dX11_status_13 rfl ?_
        refine x_iconst (pc := 14) hC dX11_status_14 ?_
        refine x_icmp_lt (pc := 15) hC 35 dX11_status_15 (by decide) (by omega) (by omega) (fun b15 => ?_) (fun b15 => ?_)
        · refine x_aload_n (pc := 35) hC dX11_status_35 rfl ?_
          refine x_mV (pc := 36) hC cv_X11_89 dX11_status_36 hu (fx_ta hx) rfl (by decide) rfl rfl (Nat.le_of_ble_eq_true rfl) ?_
          dsimp only [Option.toList, List.cons_append, List.nil_append]
          refine x_if_ne (pc := 39) hC 46 dX11_status_39 (by decide) (by decide) (fun _ => ?_) (fun h => absurd h (by decide))
          refine x_iconst (pc := 46) hC dX11_status_46 ?_
          refine x_istore_n (pc := 47) hC dX11_status_47 (Nat.le_of_ble_eq_true rfl) ?_
          dsimp only [List.set]
          refine x_iload_n (pc := 48) hC dX11_status_48 rfl ?_
          by_cases t49_0 : v = 0
          · refine x_tswIn (pc := 49) hC 96 dX11_status_49 rv (by omega) (by omega) (by rw [t49_0]; rfl) (by decide) ?_
            refine x_aload_n (pc := 96) hC dX11_status_96 rfl ?_
            refine x_getO (pc := 97) hC gf_X11_64 dX11_status_97 (fx_ta hx) (fx_cu hx).1 ?_
            refine x_getI (pc := 100) hC gf_X11_270 dX11_status_100 (fx_cu hx).2.1.1 ?_
            refine x_iret (pc := 103) hC rfl dX11_status_103 ?_
            refine ⟨⟨?_, scK.rf⟩, rfl, rfl, rfl⟩
            rw [if_pos (by omega), if_neg (by omega), if_neg h40, if_pos (by omega), h8]
          · skip
            by_cases t49_1 : v = 1
            · refine x_tswIn (pc := 49) hC 104 dX11_status_49 rv (by omega) (by omega) (by rw [t49_1]; rfl) (by decide) ?_
              refine x_iload_n (pc := 104) hC dX11_status_104 rfl ?_
              refine x_if_eq (pc := 105) hC 113 dX11_status_105 (by decide) (by decide) (fun _ => ?_) (fun h => absurd rfl h)
              refine x_aload_n (pc := 113) hC dX11_status_113 rfl ?_
              refine x_getO (pc := 114) hC gf_X11_64 dX11_status_114 (fx_ta hx) (fx_cu hx).1 ?_
              refine x_mV (pc := 117) hC cv_X11_273 dX11_status_117 (rl_work h hS h40) (fx_cu hx).2.1.1 rfl (by decide) rfl rfl (Nat.le_of_ble_eq_true rfl) ?_
              dsimp only [Option.toList, List.cons_append, List.nil_append]
              refine x_getI (pc := 120) hC (gp_X11_120 kx) dX11_status_120 rfl ?_
              refine x_iret (pc := 123) hC rfl dX11_status_123 ?_
              refine ⟨⟨?_, scK.rf⟩, rfl, rfl, rfl⟩
              rw [if_pos (by omega), if_neg (by omega), if_neg h40, if_neg (by omega), if_pos (by omega), wx.2.2.2.2]
            · skip
              by_cases t49_2 : v = 2
              · refine x_tswIn (pc := 49) hC 161 dX11_status_49 rv (by omega) (by omega) (by rw [t49_2]; rfl) (by decide) ?_
                refine x_iload_n (pc := 161) hC dX11_status_161 rfl ?_
                refine x_if_eq (pc := 162) hC 170 dX11_status_162 (by decide) (by decide) (fun _ => ?_) (fun h => absurd rfl h)
                refine x_aload_n (pc := 170) hC dX11_status_170 rfl ?_
                refine x_getO (pc := 171) hC gf_X11_64 dX11_status_171 (fx_ta hx) (fx_cu hx).1 ?_
                refine x_getO (pc := 174) hC gf_X11_279 dX11_status_174 (fx_cu hx).2.1.1 ktop ?_
                refine x_getI (pc := 177) hC (gp_X11_120 kt) dX11_status_177 rfl ?_
                refine x_iret (pc := 180) hC rfl dX11_status_180 ?_
                refine ⟨⟨?_, scK.rf⟩, rfl, rfl, rfl⟩
                first
                | (exfalso; omega)
                | (rw [if_pos (by omega), if_neg (by omega), if_neg h40, if_neg (by omega), if_neg (by omega), if_neg (by omega), if_neg (by omega), wt.2.2.2.2])
              · skip
                by_cases t49_3 : v = 3
                · refine x_tswIn (pc := 49) hC 161 dX11_status_49 rv (by omega) (by omega) (by rw [t49_3]; rfl) (by decide) ?_
                  refine x_iload_n (pc := 161) hC dX11_status_161 rfl ?_
                  refine x_if_eq (pc := 162) hC 170 dX11_status_162 (by decide) (by decide) (fun _ => ?_) (fun h => absurd rfl h)
                  refine x_aload_n (pc := 170) hC dX11_status_170 rfl ?_
                  refine x_getO (pc := 171) hC gf_X11_64 dX11_status_171 (fx_ta hx) (fx_cu hx).1 ?_
                  refine x_getO (pc := 174) hC gf_X11_279 dX11_status_174 (fx_cu hx).2.1.1 ktop ?_
                  refine x_getI (pc := 177) hC (gp_X11_120 kt) dX11_status_177 rfl ?_
                  refine x_iret (pc := 180) hC rfl dX11_status_180 ?_
                  refine ⟨⟨?_, scK.rf⟩, rfl, rfl, rfl⟩
                  first
                  | (exfalso; omega)
                  | (rw [if_pos (by omega), if_neg (by omega), if_neg h40, if_neg (by omega), if_neg (by omega), if_neg (by omega), if_neg (by omega), wt.2.2.2.2])
                · skip
                  by_cases t49_4 : v = 4
                  · refine x_tswIn (pc := 49) hC 161 dX11_status_49 rv (by omega) (by omega) (by rw [t49_4]; rfl) (by decide) ?_
                    refine x_iload_n (pc := 161) hC dX11_status_161 rfl ?_
                    refine x_if_eq (pc := 162) hC 170 dX11_status_162 (by decide) (by decide) (fun _ => ?_) (fun h => absurd rfl h)
                    refine x_aload_n (pc := 170) hC dX11_status_170 rfl ?_
                    refine x_getO (pc := 171) hC gf_X11_64 dX11_status_171 (fx_ta hx) (fx_cu hx).1 ?_
                    refine x_getO (pc := 174) hC gf_X11_279 dX11_status_174 (fx_cu hx).2.1.1 ktop ?_
                    refine x_getI (pc := 177) hC (gp_X11_120 kt) dX11_status_177 rfl ?_
                    refine x_iret (pc := 180) hC rfl dX11_status_180 ?_
                    refine ⟨⟨?_, scK.rf⟩, rfl, rfl, rfl⟩
                    first
                    | (exfalso; omega)
                    | (rw [if_pos (by omega), if_neg (by omega), if_neg h40, if_neg (by omega), if_neg (by omega), if_neg (by omega), if_neg (by omega), wt.2.2.2.2])
                  · skip
                    by_cases t49_5 : v = 5
                    · refine x_tswIn (pc := 49) hC 161 dX11_status_49 rv (by omega) (by omega) (by rw [t49_5]; rfl) (by decide) ?_
                      refine x_iload_n (pc := 161) hC dX11_status_161 rfl ?_
                      refine x_if_eq (pc := 162) hC 170 dX11_status_162 (by decide) (by decide) (fun _ => ?_) (fun h => absurd rfl h)
                      refine x_aload_n (pc := 170) hC dX11_status_170 rfl ?_
                      refine x_getO (pc := 171) hC gf_X11_64 dX11_status_171 (fx_ta hx) (fx_cu hx).1 ?_
                      refine x_getO (pc := 174) hC gf_X11_279 dX11_status_174 (fx_cu hx).2.1.1 ktop ?_
                      refine x_getI (pc := 177) hC (gp_X11_120 kt) dX11_status_177 rfl ?_
                      refine x_iret (pc := 180) hC rfl dX11_status_180 ?_
                      refine ⟨⟨?_, scK.rf⟩, rfl, rfl, rfl⟩
                      first
                      | (exfalso; omega)
                      | (rw [if_pos (by omega), if_neg (by omega), if_neg h40, if_neg (by omega), if_neg (by omega), if_neg (by omega), if_neg (by omega), wt.2.2.2.2])
                    · skip
                      by_cases t49_6 : v = 6
                      · refine x_tswIn (pc := 49) hC 124 dX11_status_49 rv (by omega) (by omega) (by rw [t49_6]; rfl) (by decide) ?_
                        refine x_iload_n (pc := 124) hC dX11_status_124 rfl ?_
                        refine x_if_eq (pc := 125) hC 132 dX11_status_125 (by decide) (by decide) (fun _ => ?_) (fun h => absurd rfl h)
                        refine x_aload_n (pc := 132) hC dX11_status_132 rfl ?_
                        refine x_getO (pc := 133) hC gf_X11_64 dX11_status_133 (fx_ta hx) (fx_cu hx).1 ?_
                        refine x_getI (pc := 136) hC gf_X11_260 dX11_status_136 (fx_cu hx).2.1.1 ?_
                        refine x_iret (pc := 139) hC rfl dX11_status_139 ?_
                        refine ⟨⟨?_, scK.rf⟩, rfl, rfl, rfl⟩
                        rw [if_pos (by omega), if_neg (by omega), if_neg h40, if_neg (by omega), if_neg (by omega), if_pos (by omega), k5, show σ o 46 - 1 - σ o 47 = σ o 46 - σ o 47 - 1 by omega]
                      · skip
                        by_cases t49_7 : v = 7
                        · refine x_tswIn (pc := 49) hC 140 dX11_status_49 rv (by omega) (by omega) (by rw [t49_7]; rfl) (by decide) ?_
                          refine x_aload_n (pc := 140) hC dX11_status_140 rfl ?_
                          refine x_bipush (pc := 141) hC dX11_status_141 (by decide) ?_
                          refine x_rV (pc := 143) hC cv_X11_276 dX11_status_143 hms (fx_ta hx) rfl (by decide) rfl rfl (Nat.le_of_ble_eq_true rfl) ?_
                          rintro v9 J S hq
                          rcases hq with ⟨h41, -⟩ | ⟨-, rfl, mV, ⟨m1, m2⟩, m3, m4⟩
                          · exact absurd h41 h40
                          dsimp only [Option.toList, List.cons_append, List.nil_append]
                          have s1 : scK T N a I J R S := sc_mg mV
                          have h1 := rl_sc h s1
                          have hx1 := rl_fx h1
                          obtain ⟨-, ⟨x1, x2, x3⟩, xp⟩ := mV
                          refine x_if_eq (pc := 146) hC 159 dX11_status_146 (by decide) (by decide) (fun h => absurd h (by decide)) (fun _ => ?_)
                          refine x_aload_n (pc := 149) hC dX11_status_149 rfl ?_
                          refine x_getO (pc := 150) hC gf_X11_36 dX11_status_150 (fx_ta hx) (fx_mg hx1).1 ?_
                          refine x_getI (pc := 153) hC gf_X11_219 dX11_status_153 (fx_mg hx1).2.1 ?_
                          refine x_goto (pc := 156) hC 160 dX11_status_156 (by decide) ?_
                          refine x_iret (pc := 160) hC rfl dX11_status_160 ?_
                          refine ⟨⟨?_, s1⟩, rfl, rfl, rfl⟩
                          rw [if_pos (by omega), if_neg (by omega), if_neg h40, if_neg (by omega), if_neg (by omega), if_neg (by omega), if_pos (by omega), x3]
                        · skip
                          refine x_tswOut (pc := 49) hC 161 dX11_status_49 (by decide) rv (by omega) ?_
                          refine x_iload_n (pc := 161) hC dX11_status_161 rfl ?_
                          refine x_if_eq (pc := 162) hC 170 dX11_status_162 (by decide) (by decide) (fun _ => ?_) (fun h => absurd rfl h)
                          refine x_aload_n (pc := 170) hC dX11_status_170 rfl ?_
                          refine x_getO (pc := 171) hC gf_X11_64 dX11_status_171 (fx_ta hx) (fx_cu hx).1 ?_
                          refine x_getO (pc := 174) hC gf_X11_279 dX11_status_174 (fx_cu hx).2.1.1 ktop ?_
                          refine x_getI (pc := 177) hC (gp_X11_120 kt) dX11_status_177 rfl ?_
                          refine x_iret (pc := 180) hC rfl dX11_status_180 ?_
                          refine ⟨⟨?_, scK.rf⟩, rfl, rfl, rfl⟩
                          first
                          | (exfalso; omega)
                          | (rw [if_pos (by omega), if_neg (by omega), if_neg h40, if_neg (by omega), if_neg (by omega), if_neg (by omega), if_neg (by omega), wt.2.2.2.2])
        · refine x_iload_n (pc := 18) hC dX11_status_18 rfl ?_
          refine x_iconst (pc := 19) hC dX11_status_19 ?_
          refine x_icmp_gt (pc := 20) hC 35 dX11_status_20 (by decide) (by omega) (by omega) (fun b20 => ?_) (fun b20 => ?_)
          · refine x_aload_n (pc := 35) hC dX11_status_35 rfl ?_
            refine x_mV (pc := 36) hC cv_X11_89 dX11_status_36 hu (fx_ta hx) rfl (by decide) rfl rfl (Nat.le_of_ble_eq_true rfl) ?_
            dsimp only [Option.toList, List.cons_append, List.nil_append]
            refine x_if_ne (pc := 39) hC 46 dX11_status_39 (by decide) (by decide) (fun _ => ?_) (fun h => absurd h (by decide))
            refine x_iconst (pc := 46) hC dX11_status_46 ?_
            refine x_istore_n (pc := 47) hC dX11_status_47 (Nat.le_of_ble_eq_true rfl) ?_
            dsimp only [List.set]
            refine x_iload_n (pc := 48) hC dX11_status_48 rfl ?_
            by_cases t49_0 : v = 0
            · refine x_tswIn (pc := 49) hC 96 dX11_status_49 rv (by omega) (by omega) (by rw [t49_0]; rfl) (by decide) ?_
              refine x_aload_n (pc := 96) hC dX11_status_96 rfl ?_
              refine x_getO (pc := 97) hC gf_X11_64 dX11_status_97 (fx_ta hx) (fx_cu hx).1 ?_
              refine x_getI (pc := 100) hC gf_X11_270 dX11_status_100 (fx_cu hx).2.1.1 ?_
              refine x_iret (pc := 103) hC rfl dX11_status_103 ?_
              refine ⟨⟨?_, scK.rf⟩, rfl, rfl, rfl⟩
              rw [if_pos (by omega), if_neg (by omega), if_neg h40, if_pos (by omega), h8]
            · skip
              by_cases t49_1 : v = 1
              · refine x_tswIn (pc := 49) hC 104 dX11_status_49 rv (by omega) (by omega) (by rw [t49_1]; rfl) (by decide) ?_
                refine x_iload_n (pc := 104) hC dX11_status_104 rfl ?_
                refine x_if_eq (pc := 105) hC 113 dX11_status_105 (by decide) (by decide) (fun _ => ?_) (fun h => absurd rfl h)
                refine x_aload_n (pc := 113) hC dX11_status_113 rfl ?_
                refine x_getO (pc := 114) hC gf_X11_64 dX11_status_114 (fx_ta hx) (fx_cu hx).1 ?_
                refine x_mV (pc := 117) hC cv_X11_273 dX11_status_117 (rl_work h hS h40) (fx_cu hx).2.1.1 rfl (by decide) rfl rfl (Nat.le_of_ble_eq_true rfl) ?_
                dsimp only [Option.toList, List.cons_append, List.nil_append]
                refine x_getI (pc := 120) hC (gp_X11_120 kx) dX11_status_120 rfl ?_
                refine x_iret (pc := 123) hC rfl dX11_status_123 ?_
                refine ⟨⟨?_, scK.rf⟩, rfl, rfl, rfl⟩
                rw [if_pos (by omega), if_neg (by omega), if_neg h40, if_neg (by omega), if_pos (by omega), wx.2.2.2.2]
              · skip
                by_cases t49_2 : v = 2
                · refine x_tswIn (pc := 49) hC 161 dX11_status_49 rv (by omega) (by omega) (by rw [t49_2]; rfl) (by decide) ?_
                  refine x_iload_n (pc := 161) hC dX11_status_161 rfl ?_
                  refine x_if_eq (pc := 162) hC 170 dX11_status_162 (by decide) (by decide) (fun _ => ?_) (fun h => absurd rfl h)
                  refine x_aload_n (pc := 170) hC dX11_status_170 rfl ?_
                  refine x_getO (pc := 171) hC gf_X11_64 dX11_status_171 (fx_ta hx) (fx_cu hx).1 ?_
                  refine x_getO (pc := 174) hC gf_X11_279 dX11_status_174 (fx_cu hx).2.1.1 ktop ?_
                  refine x_getI (pc := 177) hC (gp_X11_120 kt) dX11_status_177 rfl ?_
                  refine x_iret (pc := 180) hC rfl dX11_status_180 ?_
                  refine ⟨⟨?_, scK.rf⟩, rfl, rfl, rfl⟩
                  first
                  | (exfalso; omega)
                  | (rw [if_pos (by omega), if_neg (by omega), if_neg h40, if_neg (by omega), if_neg (by omega), if_neg (by omega), if_neg (by omega), wt.2.2.2.2])
                · skip
                  by_cases t49_3 : v = 3
                  · refine x_tswIn (pc := 49) hC 161 dX11_status_49 rv (by omega) (by omega) (by rw [t49_3]; rfl) (by decide) ?_
                    refine x_iload_n (pc := 161) hC dX11_status_161 rfl ?_
                    refine x_if_eq (pc := 162) hC 170 dX11_status_162 (by decide) (by decide) (fun _ => ?_) (fun h => absurd rfl h)
                    refine x_aload_n (pc := 170) hC dX11_status_170 rfl ?_
                    refine x_getO (pc := 171) hC gf_X11_64 dX11_status_171 (fx_ta hx) (fx_cu hx).1 ?_
                    refine x_getO (pc := 174) hC gf_X11_279 dX11_status_174 (fx_cu hx).2.1.1 ktop ?_
                    refine x_getI (pc := 177) hC (gp_X11_120 kt) dX11_status_177 rfl ?_
                    refine x_iret (pc := 180) hC rfl dX11_status_180 ?_
                    refine ⟨⟨?_, scK.rf⟩, rfl, rfl, rfl⟩
                    first
                    | (exfalso; omega)
                    | (rw [if_pos (by omega), if_neg (by omega), if_neg h40, if_neg (by omega), if_neg (by omega), if_neg (by omega), if_neg (by omega), wt.2.2.2.2])
                  · skip
                    by_cases t49_4 : v = 4
                    · refine x_tswIn (pc := 49) hC 161 dX11_status_49 rv (by omega) (by omega) (by rw [t49_4]; rfl) (by decide) ?_
                      refine x_iload_n (pc := 161) hC dX11_status_161 rfl ?_
                      refine x_if_eq (pc := 162) hC 170 dX11_status_162 (by decide) (by decide) (fun _ => ?_) (fun h => absurd rfl h)
                      refine x_aload_n (pc := 170) hC dX11_status_170 rfl ?_
                      refine x_getO (pc := 171) hC gf_X11_64 dX11_status_171 (fx_ta hx) (fx_cu hx).1 ?_
                      refine x_getO (pc := 174) hC gf_X11_279 dX11_status_174 (fx_cu hx).2.1.1 ktop ?_
                      refine x_getI (pc := 177) hC (gp_X11_120 kt) dX11_status_177 rfl ?_
                      refine x_iret (pc := 180) hC rfl dX11_status_180 ?_
                      refine ⟨⟨?_, scK.rf⟩, rfl, rfl, rfl⟩
                      first
                      | (exfalso; omega)
                      | (rw [if_pos (by omega), if_neg (by omega), if_neg h40, if_neg (by omega), if_neg (by omega), if_neg (by omega), if_neg (by omega), wt.2.2.2.2])
                    · skip
                      by_cases t49_5 : v = 5
                      · refine x_tswIn (pc := 49) hC 161 dX11_status_49 rv (by omega) (by omega) (by rw [t49_5]; rfl) (by decide) ?_
                        refine x_iload_n (pc := 161) hC dX11_status_161 rfl ?_
                        refine x_if_eq (pc := 162) hC 170 dX11_status_162 (by decide) (by decide) (fun _ => ?_) (fun h => absurd rfl h)
                        refine x_aload_n (pc := 170) hC dX11_status_170 rfl ?_
                        refine x_getO (pc := 171) hC gf_X11_64 dX11_status_171 (fx_ta hx) (fx_cu hx).1 ?_
                        refine x_getO (pc := 174) hC gf_X11_279 dX11_status_174 (fx_cu hx).2.1.1 ktop ?_
                        refine x_getI (pc := 177) hC (gp_X11_120 kt) dX11_status_177 rfl ?_
                        refine x_iret (pc := 180) hC rfl dX11_status_180 ?_
                        refine ⟨⟨?_, scK.rf⟩, rfl, rfl, rfl⟩
                        first
                        | (exfalso; omega)
                        | (rw [if_pos (by omega), if_neg (by omega), if_neg h40, if_neg (by omega), if_neg (by omega), if_neg (by omega), if_neg (by omega), wt.2.2.2.2])
                      · skip
                        by_cases t49_6 : v = 6
                        · refine x_tswIn (pc := 49) hC 124 dX11_status_49 rv (by omega) (by omega) (by rw [t49_6]; rfl) (by decide) ?_
                          refine x_iload_n (pc := 124) hC dX11_status_124 rfl ?_
                          refine x_if_eq (pc := 125) hC 132 dX11_status_125 (by decide) (by decide) (fun _ => ?_) (fun h => absurd rfl h)
                          refine x_aload_n (pc := 132) hC dX11_status_132 rfl ?_
                          refine x_getO (pc := 133) hC gf_X11_64 dX11_status_133 (fx_ta hx) (fx_cu hx).1 ?_
                          refine x_getI (pc := 136) hC gf_X11_260 dX11_status_136 (fx_cu hx).2.1.1 ?_
                          refine x_iret (pc := 139) hC rfl dX11_status_139 ?_
                          refine ⟨⟨?_, scK.rf⟩, rfl, rfl, rfl⟩
                          rw [if_pos (by omega), if_neg (by omega), if_neg h40, if_neg (by omega), if_neg (by omega), if_pos (by omega), k5, show σ o 46 - 1 - σ o 47 = σ o 46 - σ o 47 - 1 by omega]
                        · skip
                          by_cases t49_7 : v = 7
                          · refine x_tswIn (pc := 49) hC 140 dX11_status_49 rv (by omega) (by omega) (by rw [t49_7]; rfl) (by decide) ?_
                            refine x_aload_n (pc := 140) hC dX11_status_140 rfl ?_
                            refine x_bipush (pc := 141) hC dX11_status_141 (by decide) ?_
                            refine x_rV (pc := 143) hC cv_X11_276 dX11_status_143 hms (fx_ta hx) rfl (by decide) rfl rfl (Nat.le_of_ble_eq_true rfl) ?_
                            rintro v9 J S hq
                            rcases hq with ⟨h41, -⟩ | ⟨-, rfl, mV, ⟨m1, m2⟩, m3, m4⟩
                            · exact absurd h41 h40
                            dsimp only [Option.toList, List.cons_append, List.nil_append]
                            have s1 : scK T N a I J R S := sc_mg mV
                            have h1 := rl_sc h s1
                            have hx1 := rl_fx h1
                            obtain ⟨-, ⟨x1, x2, x3⟩, xp⟩ := mV
                            refine x_if_eq (pc := 146) hC 159 dX11_status_146 (by decide) (by decide) (fun h => absurd h (by decide)) (fun _ => ?_)
                            refine x_aload_n (pc := 149) hC dX11_status_149 rfl ?_
                            refine x_getO (pc := 150) hC gf_X11_36 dX11_status_150 (fx_ta hx) (fx_mg hx1).1 ?_
                            refine x_getI (pc := 153) hC gf_X11_219 dX11_status_153 (fx_mg hx1).2.1 ?_
                            refine x_goto (pc := 156) hC 160 dX11_status_156 (by decide) ?_
                            refine x_iret (pc := 160) hC rfl dX11_status_160 ?_
                            refine ⟨⟨?_, s1⟩, rfl, rfl, rfl⟩
                            rw [if_pos (by omega), if_neg (by omega), if_neg h40, if_neg (by omega), if_neg (by omega), if_neg (by omega), if_pos (by omega), x3]
                          · skip
                            refine x_tswOut (pc := 49) hC 161 dX11_status_49 (by decide) rv (by omega) ?_
                            refine x_iload_n (pc := 161) hC dX11_status_161 rfl ?_
                            refine x_if_eq (pc := 162) hC 170 dX11_status_162 (by decide) (by decide) (fun _ => ?_) (fun h => absurd rfl h)
                            refine x_aload_n (pc := 170) hC dX11_status_170 rfl ?_
                            refine x_getO (pc := 171) hC gf_X11_64 dX11_status_171 (fx_ta hx) (fx_cu hx).1 ?_
                            refine x_getO (pc := 174) hC gf_X11_279 dX11_status_174 (fx_cu hx).2.1.1 ktop ?_
                            refine x_getI (pc := 177) hC (gp_X11_120 kt) dX11_status_177 rfl ?_
                            refine x_iret (pc := 180) hC rfl dX11_status_180 ?_
                            refine ⟨⟨?_, scK.rf⟩, rfl, rfl, rfl⟩
                            first
                            | (exfalso; omega)
                            | (rw [if_pos (by omega), if_neg (by omega), if_neg h40, if_neg (by omega), if_neg (by omega), if_neg (by omega), if_neg (by omega), wt.2.2.2.2])
          · refine x_aload_n (pc := 23) hC dX11_status_23 rfl ?_
            refine x_getO (pc := 24) hC gf_X11_64 dX11_status_24 (fx_ta hx) (fx_cu hx).1 ?_
            refine x_getO (pc := 27) hC gf_X11_210 dX11_status_27 (fx_cu hx).2.1.1 (fx_cu hx).2.1.2.2.2.1.1 ?_
            refine x_iload_n (pc := 30) hC dX11_status_30 rfl ?_
            refine x_iconst (pc := 31) hC dX11_status_31 ?_
            refine x_isub (pc := 32) hC dX11_status_32 ?_
            refine x_iald (pc := 33) hC dX11_status_33 (fx_cu hx).2.1.2.2.2.1.2.1 (by omega) (by rw [(fx_cu hx).2.1.2.2.2.1.2.2]; omega) ?_
            refine x_iret (pc := 34) hC rfl dX11_status_34 ?_
            refine ⟨⟨?_, scK.rf⟩, rfl, rfl, rfl⟩
            rw [if_pos (by omega), if_pos (by omega)]
            exact congrArg (fun x => some (vI x)) (rl_fg h (v - 2) (by omega) (by omega))
      · refine x_bipush (pc := 10) hC dX11_status_10 (by decide) ?_
        refine x_iret (pc := 12) hC rfl dX11_status_12 ?_
        refine ⟨⟨?_, scK.rf⟩, rfl, rfl, rfl⟩
        rw [if_neg (by omega)]

set_option maxHeartbeats 4000000 in
set_option maxRecDepth 100000 in
theorem c_conflict {G : ax_G} {T : Nat → Nat} {N : Nat → Int} {I : Nat → Int → Int} {R : Nat → Int → Option Nat} {z a o : Nat} {σ : Nat → Int → Int} {A w : Int → Nat} (h : RelA G T N I R z a o σ A w) (hI : miC σ o) (hR : miR σ o) (hS : rpS σ o) {k v : Int} (rk : ax_r k) (rv : ax_r v) : axR G YX11_conflict 6 [vR a, vI k, vI v] T N I R z (fun r1 I1 R1 => r1 = some (vI (cfR σ o k v)) ∧ scK T N a I I1 R R1) := by
  refine ax_enter (by decide) (Nat.le_of_ble_eq_true rfl) (ax_cat rfl) (fun f hC => ?_)
  show axX G f 0 0 _ 0 [vR a, vI k, vI v] [] T N I R z 0 0
  have hx := rl_fx h
  unfold cfR
  refine x_aload_n (pc := 0) hC dX11_conflict_0 rfl ?_
  refine x_iload_n (pc := 1) hC dX11_conflict_1 rfl ?_
  refine x_rV (pc := 2) hC cv_X11_282 dX11_conflict_2 (c_pickConflict h hI hR hS rk) (fx_ta hx) rfl (by decide) rfl rfl (Nat.le_of_ble_eq_true rfl) ?_
  rintro v9 J S ⟨s1, hq⟩
  have h1 := rl_sc h s1
  have hx1 := rl_fx h1
  rcases hq with ⟨hop, rfl⟩ | ⟨hop, rfl, ⟨q1, q2, q3⟩, ⟨⟨n1, l1⟩, ⟨n2, l2⟩, n3, l3⟩, ⟨z2, z3⟩, hsh⟩
  · dsimp only [Option.toList, List.cons_append, List.nil_append]
    rw [if_neg hop]
    refine x_if_ne (pc := 5) hC 10 dX11_conflict_5 (by decide) (by decide) (fun h => absurd rfl h) (fun _ => ?_)
    refine x_iconst (pc := 8) hC dX11_conflict_8 ?_
    refine x_iret (pc := 9) hC rfl dX11_conflict_9 ?_
    refine ⟨⟨?_, s1⟩, rfl, rfl, rfl⟩
    rfl
  · dsimp only [Option.toList, List.cons_append, List.nil_append]
    rw [if_pos hop]
    have e1 := ptS_len q1
    have e2 := ptS_len q2
    have e3 := ptS_len q3
    obtain ⟨s, hs9⟩ : ∃ s, s = (if lxF (shpSeq (cgB σ o k) (cgO σ o k) (cgT σ o k)).1 (shpSeq (cgB σ o k) (cgT σ o k) (cgO σ o k)).1 = 1 then a + 5 + 90 else a + 5 + 87) := ⟨_, rfl⟩
    rw [← hs9] at hsh
    have h01 := lxF_01 (shpSeq (cgB σ o k) (cgO σ o k) (cgT σ o k)).1 (shpSeq (cgB σ o k) (cgT σ o k) (cgO σ o k)).1
    have hsel : shT T N S s ∧ shS J s (cShape (cgB σ o k) (cgO σ o k) (cgT σ o k)) ∧ (s = a + 5 + 90 ↔ lxF (shpSeq (cgB σ o k) (cgO σ o k) (cgT σ o k)).1 (shpSeq (cgB σ o k) (cgT σ o k) (cgO σ o k)).1 = 1) := by
      unfold cShape
      rcases h01 with h | h
      · rw [if_neg (by omega)] at hs9
        rw [if_pos h, hs9]
        exact ⟨(fx_mg hx1).2.2.2.2.2.2.2.2.2.2.2.2.1.2, z2, by omega⟩
      · rw [if_pos h] at hs9
        rw [if_neg (by omega), hs9]
        exact ⟨(fx_mg hx1).2.2.2.2.2.2.2.2.2.2.2.2.2.2, z3, by omega⟩
    obtain ⟨hsT, hsS, hs4⟩ := hsel
    have hcl := cShape_l (cgB σ o k) (cgO σ o k) (cgT σ o k)
    unfold cfV
    refine x_if_ne (pc := 5) hC 10 dX11_conflict_5 (by decide) (by decide) (fun _ => ?_) (fun h => absurd h (by decide))
    refine x_iload_n (pc := 10) hC dX11_conflict_10 rfl ?_
    refine x_bipush (pc := 11) hC dX11_conflict_11 (by decide) ?_
    refine x_icmp_lt (pc := 13) hC 46 dX11_conflict_13 (by decide) (by omega) (by omega) (fun b13 => ?_) (fun b13 => ?_)
    · refine x_iload_n (pc := 46) hC dX11_conflict_46 rfl ?_
      refine x_bipush (pc := 47) hC dX11_conflict_47 (by decide) ?_
      refine x_icmp_lt (pc := 49) hC 82 dX11_conflict_49 (by decide) (by omega) (by omega) (fun b49 => ?_) (fun b49 => ?_)
      · refine x_iload_n (pc := 82) hC dX11_conflict_82 rfl ?_
        refine x_bipush (pc := 83) hC dX11_conflict_83 (by decide) ?_
        refine x_icmp_lt (pc := 85) hC 118 dX11_conflict_85 (by decide) (by omega) (by omega) (fun b85 => ?_) (fun b85 => ?_)
        · refine x_iload_n (pc := 118) hC dX11_conflict_118 rfl ?_
          by_cases t119_0 : v = 0
          · refine x_tswIn (pc := 119) hC 152 dX11_conflict_119 rv (by omega) (by omega) (by rw [t119_0]; rfl) (by decide) ?_
            refine x_aload_n (pc := 152) hC dX11_conflict_152 rfl ?_
            refine x_getO (pc := 153) hC gf_X11_36 dX11_conflict_153 (fx_ta hx) (fx_mg hx1).1 ?_
            refine x_getO (pc := 156) hC gf_X11_300 dX11_conflict_156 (fx_mg hx1).2.1 (fx_mg hx1).2.2.2.2.2.2.2.2.2.1.1 ?_
            refine x_getI (pc := 159) hC gf_X11_163 dX11_conflict_159 (fx_mg hx1).2.2.2.2.2.2.2.2.2.1.2 ?_
            refine x_iret (pc := 162) hC rfl dX11_conflict_162 ?_
            refine ⟨⟨?_, s1⟩, rfl, rfl, rfl⟩
            rw [if_pos (by omega), if_pos t119_0, e1]
          · skip
            by_cases t119_1 : v = 1
            · refine x_tswIn (pc := 119) hC 163 dX11_conflict_119 rv (by omega) (by omega) (by rw [t119_1]; rfl) (by decide) ?_
              refine x_aload_n (pc := 163) hC dX11_conflict_163 rfl ?_
              refine x_getO (pc := 164) hC gf_X11_36 dX11_conflict_164 (fx_ta hx) (fx_mg hx1).1 ?_
              refine x_getO (pc := 167) hC gf_X11_297 dX11_conflict_167 (fx_mg hx1).2.1 (fx_mg hx1).2.2.2.2.2.2.2.2.2.2.1.1 ?_
              refine x_getI (pc := 170) hC gf_X11_163 dX11_conflict_170 (fx_mg hx1).2.2.2.2.2.2.2.2.2.2.1.2 ?_
              refine x_iret (pc := 173) hC rfl dX11_conflict_173 ?_
              refine ⟨⟨?_, s1⟩, rfl, rfl, rfl⟩
              rw [if_pos (by omega), if_neg t119_0, if_pos t119_1, e2]
            · skip
              by_cases t119_2 : v = 2
              · refine x_tswIn (pc := 119) hC 174 dX11_conflict_119 rv (by omega) (by omega) (by rw [t119_2]; rfl) (by decide) ?_
                refine x_aload_n (pc := 174) hC dX11_conflict_174 rfl ?_
                refine x_getO (pc := 175) hC gf_X11_36 dX11_conflict_175 (fx_ta hx) (fx_mg hx1).1 ?_
                refine x_getO (pc := 178) hC gf_X11_293 dX11_conflict_178 (fx_mg hx1).2.1 (fx_mg hx1).2.2.2.2.2.2.2.2.2.2.2.1.1 ?_
                refine x_getI (pc := 181) hC gf_X11_163 dX11_conflict_181 (fx_mg hx1).2.2.2.2.2.2.2.2.2.2.2.1.2 ?_
                refine x_iret (pc := 184) hC rfl dX11_conflict_184 ?_
                refine ⟨⟨?_, s1⟩, rfl, rfl, rfl⟩
                rw [if_pos (by omega), if_neg t119_0, if_neg t119_1, e3]
              · skip
                by_cases t119_3 : v = 3
                · refine x_tswIn (pc := 119) hC 185 dX11_conflict_119 rv (by omega) (by omega) (by rw [t119_3]; rfl) (by decide) ?_
                  refine x_aload_n (pc := 185) hC dX11_conflict_185 rfl ?_
                  refine x_getO (pc := 186) hC gf_X11_36 dX11_conflict_186 (fx_ta hx) (fx_mg hx1).1 ?_
                  refine x_getO (pc := 189) hC gf_X11_285 dX11_conflict_189 (fx_mg hx1).2.1 hsh ?_
                  refine x_getI (pc := 192) hC gf_X11_303 dX11_conflict_192 hsT.1 ?_
                  refine x_iret (pc := 195) hC rfl dX11_conflict_195 ?_
                  refine ⟨⟨?_, s1⟩, rfl, rfl, rfl⟩
                  rw [if_neg (by omega), if_neg (by omega), if_neg (by omega), if_neg (by omega), if_neg (by omega), if_pos t119_3, hsS.1.1]
                · skip
                  by_cases t119_4 : v = 4
                  · refine x_tswIn (pc := 119) hC 196 dX11_conflict_119 rv (by omega) (by omega) (by rw [t119_4]; rfl) (by decide) ?_
                    refine x_aload_n (pc := 196) hC dX11_conflict_196 rfl ?_
                    refine x_getO (pc := 197) hC gf_X11_36 dX11_conflict_197 (fx_ta hx) (fx_mg hx1).1 ?_
                    refine x_getO (pc := 200) hC gf_X11_285 dX11_conflict_200 (fx_mg hx1).2.1 hsh ?_
                    refine x_aload_n (pc := 203) hC dX11_conflict_203 rfl ?_
                    refine x_getO (pc := 204) hC gf_X11_36 dX11_conflict_204 (fx_ta hx) (fx_mg hx1).1 ?_
                    refine x_getO (pc := 207) hC gf_X11_304 dX11_conflict_207 (fx_mg hx1).2.1 (fx_mg hx1).2.2.2.2.2.2.2.2.2.2.2.2.2.1 ?_
                    refine x_acmp_ne (pc := 210) hC 217 dX11_conflict_210 (by decide) (fun b210 => ?_) (fun b210 => ?_)
                    · refine x_iconst (pc := 217) hC dX11_conflict_217 ?_
                      refine x_iret (pc := 218) hC rfl dX11_conflict_218 ?_
                      refine ⟨⟨?_, s1⟩, rfl, rfl, rfl⟩
                      rw [if_neg (by omega), if_neg (by omega), if_neg (by omega), if_neg (by omega), if_neg (by omega), if_neg t119_3, if_pos t119_4]
                      have h9 : ¬ lxF (shpSeq (cgB σ o k) (cgO σ o k) (cgT σ o k)).1 (shpSeq (cgB σ o k) (cgT σ o k) (cgO σ o k)).1 = 1 := fun h9 => b210 (congrArg some (hs4.mpr h9))
                      rw [show lxF (shpSeq (cgB σ o k) (cgO σ o k) (cgT σ o k)).1 (shpSeq (cgB σ o k) (cgT σ o k) (cgO σ o k)).1 = 0 by omega]
                    · refine x_iconst (pc := 213) hC dX11_conflict_213 ?_
                      refine x_goto (pc := 214) hC 218 dX11_conflict_214 (by decide) ?_
                      refine x_iret (pc := 218) hC rfl dX11_conflict_218 ?_
                      refine ⟨⟨?_, s1⟩, rfl, rfl, rfl⟩
                      rw [if_neg (by omega), if_neg (by omega), if_neg (by omega), if_neg (by omega), if_neg (by omega), if_neg t119_3, if_pos t119_4]
                      rw [hs4.mp (Option.some.inj b210)]
                  · skip
                    refine x_tswOut (pc := 119) hC 219 dX11_conflict_119 (by decide) rv (by omega) ?_
                    refine x_iload_n (pc := 219) hC dX11_conflict_219 rfl ?_
                    refine x_bipush (pc := 220) hC dX11_conflict_220 (by decide) ?_
                    refine x_isubW (pc := 222) hC dX11_conflict_222 rv (by decide) (fun v1 r1 e1 => ?_)
                    refine x_mS (pc := 223) hC cs_X11_149 dX11_conflict_223 (c_isLineIndex r1) rfl (by decide) rfl rfl (Nat.le_of_ble_eq_true rfl) ?_
                    dsimp only [Option.toList, List.cons_append, List.nil_append]
                    refine x_ifB_eq (pc := 226) hC 246 dX11_conflict_226 (by decide) (fun b226 => ?_) (fun b226 => ?_)
                    · refine x_bipush (pc := 246) hC dX11_conflict_246 (by decide) ?_
                      refine x_iret (pc := 248) hC rfl dX11_conflict_248 ?_
                      refine ⟨⟨?_, s1⟩, rfl, rfl, rfl⟩
                      rw [if_neg (by omega), if_neg (by omega), if_neg (by omega), if_neg (by omega), if_neg (by omega), if_neg (by omega), if_neg (by omega)]
                    · refine x_aload_n (pc := 229) hC dX11_conflict_229 rfl ?_
                      refine x_getO (pc := 230) hC gf_X11_36 dX11_conflict_230 (fx_ta hx) (fx_mg hx1).1 ?_
                      refine x_getO (pc := 233) hC gf_X11_300 dX11_conflict_233 (fx_mg hx1).2.1 (fx_mg hx1).2.2.2.2.2.2.2.2.2.1.1 ?_
                      refine x_iload_n (pc := 236) hC dX11_conflict_236 rfl ?_
                      refine x_bipush (pc := 237) hC dX11_conflict_237 (by decide) ?_
                      refine x_isubW (pc := 239) hC dX11_conflict_239 rv (by decide) (fun v2 r2 e2 => ?_)
                      refine x_mV (pc := 240) hC cv_X11_168 dX11_conflict_240 (c_lineAt q1 r2 (by omega)) (fx_mg hx1).2.2.2.2.2.2.2.2.2.1.2 rfl (by decide) rfl rfl (Nat.le_of_ble_eq_true rfl) ?_
                      dsimp only [Option.toList, List.cons_append, List.nil_append]
                      refine x_goto (pc := 243) hC 248 dX11_conflict_243 (by decide) ?_
                      refine x_iret (pc := 248) hC rfl dX11_conflict_248 ?_
                      refine ⟨⟨?_, s1⟩, rfl, rfl, rfl⟩
                      rw [if_neg (by omega), if_pos (by omega), show v2 = v - 10 by omega]
        · refine x_iload_n (pc := 88) hC dX11_conflict_88 rfl ?_
          refine x_bipush (pc := 89) hC dX11_conflict_89 (by decide) ?_
          refine x_isubW (pc := 91) hC dX11_conflict_91 rv (by decide) (fun v1 r1 e1 => ?_)
          refine x_mS (pc := 92) hC cs_X11_149 dX11_conflict_92 (c_isLineIndex r1) rfl (by decide) rfl rfl (Nat.le_of_ble_eq_true rfl) ?_
          dsimp only [Option.toList, List.cons_append, List.nil_append]
          refine x_ifB_eq (pc := 95) hC 115 dX11_conflict_95 (by decide) (fun b95 => ?_) (fun b95 => ?_)
          · refine x_bipush (pc := 115) hC dX11_conflict_115 (by decide) ?_
            refine x_iret (pc := 117) hC rfl dX11_conflict_117 ?_
            refine ⟨⟨?_, s1⟩, rfl, rfl, rfl⟩
            rw [if_neg (by omega), if_neg (by omega), if_neg (by omega), if_neg (by omega), if_neg (by omega), if_neg (by omega), if_neg (by omega)]
          · refine x_aload_n (pc := 98) hC dX11_conflict_98 rfl ?_
            refine x_getO (pc := 99) hC gf_X11_36 dX11_conflict_99 (fx_ta hx) (fx_mg hx1).1 ?_
            refine x_getO (pc := 102) hC gf_X11_297 dX11_conflict_102 (fx_mg hx1).2.1 (fx_mg hx1).2.2.2.2.2.2.2.2.2.2.1.1 ?_
            refine x_iload_n (pc := 105) hC dX11_conflict_105 rfl ?_
            refine x_bipush (pc := 106) hC dX11_conflict_106 (by decide) ?_
            refine x_isubW (pc := 108) hC dX11_conflict_108 rv (by decide) (fun v2 r2 e2 => ?_)
            refine x_mV (pc := 109) hC cv_X11_168 dX11_conflict_109 (c_lineAt q2 r2 (by omega)) (fx_mg hx1).2.2.2.2.2.2.2.2.2.2.1.2 rfl (by decide) rfl rfl (Nat.le_of_ble_eq_true rfl) ?_
            dsimp only [Option.toList, List.cons_append, List.nil_append]
            refine x_goto (pc := 112) hC 117 dX11_conflict_112 (by decide) ?_
            refine x_iret (pc := 117) hC rfl dX11_conflict_117 ?_
            refine ⟨⟨?_, s1⟩, rfl, rfl, rfl⟩
            rw [if_neg (by omega), if_neg (by omega), if_pos (by omega), show v2 = v - 30 by omega]
      · refine x_iload_n (pc := 52) hC dX11_conflict_52 rfl ?_
        refine x_bipush (pc := 53) hC dX11_conflict_53 (by decide) ?_
        refine x_isubW (pc := 55) hC dX11_conflict_55 rv (by decide) (fun v1 r1 e1 => ?_)
        refine x_mS (pc := 56) hC cs_X11_149 dX11_conflict_56 (c_isLineIndex r1) rfl (by decide) rfl rfl (Nat.le_of_ble_eq_true rfl) ?_
        dsimp only [Option.toList, List.cons_append, List.nil_append]
        refine x_ifB_eq (pc := 59) hC 79 dX11_conflict_59 (by decide) (fun b59 => ?_) (fun b59 => ?_)
        · refine x_bipush (pc := 79) hC dX11_conflict_79 (by decide) ?_
          refine x_iret (pc := 81) hC rfl dX11_conflict_81 ?_
          refine ⟨⟨?_, s1⟩, rfl, rfl, rfl⟩
          rw [if_neg (by omega), if_neg (by omega), if_neg (by omega), if_neg (by omega), if_neg (by omega), if_neg (by omega), if_neg (by omega)]
        · refine x_aload_n (pc := 62) hC dX11_conflict_62 rfl ?_
          refine x_getO (pc := 63) hC gf_X11_36 dX11_conflict_63 (fx_ta hx) (fx_mg hx1).1 ?_
          refine x_getO (pc := 66) hC gf_X11_293 dX11_conflict_66 (fx_mg hx1).2.1 (fx_mg hx1).2.2.2.2.2.2.2.2.2.2.2.1.1 ?_
          refine x_iload_n (pc := 69) hC dX11_conflict_69 rfl ?_
          refine x_bipush (pc := 70) hC dX11_conflict_70 (by decide) ?_
          refine x_isubW (pc := 72) hC dX11_conflict_72 rv (by decide) (fun v2 r2 e2 => ?_)
          refine x_mV (pc := 73) hC cv_X11_168 dX11_conflict_73 (c_lineAt q3 r2 (by omega)) (fx_mg hx1).2.2.2.2.2.2.2.2.2.2.2.1.2 rfl (by decide) rfl rfl (Nat.le_of_ble_eq_true rfl) ?_
          dsimp only [Option.toList, List.cons_append, List.nil_append]
          refine x_goto (pc := 76) hC 81 dX11_conflict_76 (by decide) ?_
          refine x_iret (pc := 81) hC rfl dX11_conflict_81 ?_
          refine ⟨⟨?_, s1⟩, rfl, rfl, rfl⟩
          rw [if_neg (by omega), if_neg (by omega), if_neg (by omega), if_pos (by omega), show v2 = v - 50 by omega]
    · refine x_iload_n (pc := 16) hC dX11_conflict_16 rfl ?_
      refine x_bipush (pc := 17) hC dX11_conflict_17 (by decide) ?_
      refine x_isubW (pc := 19) hC dX11_conflict_19 rv (by decide) (fun v1 r1 e1 => ?_)
      refine x_mS (pc := 20) hC cs_X11_235 dX11_conflict_20 (c_isShapeIndex r1) rfl (by decide) rfl rfl (Nat.le_of_ble_eq_true rfl) ?_
      dsimp only [Option.toList, List.cons_append, List.nil_append]
      refine x_ifB_eq (pc := 23) hC 43 dX11_conflict_23 (by decide) (fun b23 => ?_) (fun b23 => ?_)
      · refine x_bipush (pc := 43) hC dX11_conflict_43 (by decide) ?_
        refine x_iret (pc := 45) hC rfl dX11_conflict_45 ?_
        refine ⟨⟨?_, s1⟩, rfl, rfl, rfl⟩
        rw [if_neg (by omega), if_neg (by omega), if_neg (by omega), if_neg (by omega), if_neg (by omega), if_neg (by omega), if_neg (by omega)]
      · refine x_aload_n (pc := 26) hC dX11_conflict_26 rfl ?_
        refine x_getO (pc := 27) hC gf_X11_36 dX11_conflict_27 (fx_ta hx) (fx_mg hx1).1 ?_
        refine x_getO (pc := 30) hC gf_X11_285 dX11_conflict_30 (fx_mg hx1).2.1 hsh ?_
        refine x_iload_n (pc := 33) hC dX11_conflict_33 rfl ?_
        refine x_bipush (pc := 34) hC dX11_conflict_34 (by decide) ?_
        refine x_isubW (pc := 36) hC dX11_conflict_36 rv (by decide) (fun v2 r2 e2 => ?_)
        refine x_mV (pc := 37) hC cv_X11_288 dX11_conflict_37 (c_numberAt hsT hsS (by omega) (by omega) r2) hsT.1 rfl (by decide) rfl rfl (Nat.le_of_ble_eq_true rfl) ?_
        dsimp only [Option.toList, List.cons_append, List.nil_append]
        refine x_goto (pc := 40) hC 45 dX11_conflict_40 (by decide) ?_
        refine x_iret (pc := 45) hC rfl dX11_conflict_45 ?_
        refine ⟨⟨?_, s1⟩, rfl, rfl, rfl⟩
        rw [if_neg (by omega), if_neg (by omega), if_neg (by omega), if_neg (by omega), if_pos (by omega), show v2 = v - 70 by omega]

