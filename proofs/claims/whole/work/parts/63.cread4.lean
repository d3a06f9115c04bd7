/-! THE CLASS: calls that only read, 4 -/
set_option maxHeartbeats 4000000 in
set_option maxRecDepth 100000 in
theorem c_merge {G : ax_G} {T : Nat → Nat} {N : Nat → Int} {I : Nat → Int → Int} {R : Nat → Int → Option Nat} {z a o : Nat} {σ : Nat → Int → Int} {A w : Int → Nat} (h : RelA G T N I R z a o σ A w) (hI : miC σ o) (hR : miR σ o) {b c d v : Int} (rb : ax_r b) (rc : ax_r c) (rd : ax_r d) (rv : ax_r v) : axR G YX11_merge 4 [vR a, vI b, vI c, vI d, vI v] T N I R z (fun r1 I1 R1 => r1 = some (vI (mgR σ o b c d v)) ∧ scK T N a I I1 R R1) := by
  refine ax_enter (by decide) (Nat.le_of_ble_eq_true rfl) (ax_cat rfl) (fun f hC => ?_)
  show axX G f 0 0 _ 0 [vR a, vI b, vI c, vI d, vI v, vU, vU, vU] [] T N I R z 0 0
  have hx := rl_fx h
  have hn := rl_n h
  have hC1 := hI.1
  have hl := hI.2.1.2
  unfold mgR
  by_cases hb : 0 ≤ b ∧ b < σ o 2
  · have wb := rl_wo h hb.1 hb.2
    have kb := wb.2.2.2.1
    by_cases hc : 0 ≤ c ∧ c < σ o 2
    · have wc := rl_wo h hc.1 hc.2
      have kc := wc.2.2.2.1
      by_cases hd : 0 ≤ d ∧ d < σ o 2
      · have wd := rl_wo h hd.1 hd.2
        have kd := wd.2.2.2.1
        rw [if_pos ⟨hb, hc, hd⟩, mrg_list _ _ _ _ (hl b).1 (hl c).1 (hl d).1]
        change axX G f 0 0 (fun r1 T1 N1 I1 R1 z1 => (r1 = some (vI (if (0 ≤ v ∧ v ≤ 2) ∨ (10 ≤ v ∧ v ≤ 25) then (if v = 0 then (mrgL (rsL σ o) (rowL σ o b) (rowL σ o c) (rowL σ o d)).2.1 else if v = 1 then (mrgL (rsL σ o) (rowL σ o b) (rowL σ o c) (rowL σ o d)).2.2.length else if (mrgL (rsL σ o) (rowL σ o b) (rowL σ o c) (rowL σ o d)).2.2.length > 0 then -9 else if v = 2 then (mrgL (rsL σ o) (rowL σ o b) (rowL σ o c) (rowL σ o d)).1.length else atO (mrgL (rsL σ o) (rowL σ o b) (rowL σ o c) (rowL σ o d)).1 (v - 10)) else -2)) ∧ scK T N a I I1 R R1) ∧ T1 = T ∧ N1 = N ∧ z1 = z) 0 [vR a, vI b, vI c, vI d, vI v, vU, vU, vU] [] T N I R z 0 0
        have hcf := mrgL_c (rsL σ o) (rowL σ o b) (rowL σ o c) (rowL σ o d)
        have hmg := cl_mg (wd := -9) h hR (by decide) wb.1 wc.1 wd.1 (rl_row h hb.1 hb.2).1 (rl_row h hc.1 hc.2).1 (rl_row h hd.1 hd.2).1 wb.2.1 wc.2.1 wd.2.1
        have hrl : ((rowL σ o b).length : Int) = σ (o + 6) b := rowL_len hI.2.1 b
        have hb16 := hl b
        obtain ⟨M, hM⟩ : ∃ M, M = (mrgL (rsL σ o) (rowL σ o b) (rowL σ o c) (rowL σ o d)) := ⟨_, rfl⟩
        rw [← hM] at hcf hmg ⊢
        refine x_aload_n (pc := 0) hC dX11_merge_0 rfl ?_
        refine x_iload_n (pc := 1) hC dX11_merge_1 rfl ?_
        refine x_mV (pc := 2) hC cv_X11_123 dX11_merge_2 (rl_at h hI hb) (fx_ta hx) rfl (by decide) rfl rfl (Nat.le_of_ble_eq_true rfl) ?_
        dsimp only [Option.toList, List.cons_append, List.nil_append]
        refine x_astore (pc := 5) hC dX11_merge_5 (Nat.le_of_ble_eq_true rfl) ?_
        dsimp only [List.set]
        refine x_aload_n (pc := 7) hC dX11_merge_7 rfl ?_
        refine x_iload_n (pc := 8) hC dX11_merge_8 rfl ?_
        refine x_mV (pc := 9) hC cv_X11_123 dX11_merge_9 (rl_at h hI hc) (fx_ta hx) rfl (by decide) rfl rfl (Nat.le_of_ble_eq_true rfl) ?_
        dsimp only [Option.toList, List.cons_append, List.nil_append]
        refine x_astore (pc := 12) hC dX11_merge_12 (Nat.le_of_ble_eq_true rfl) ?_
        dsimp only [List.set]
        refine x_aload_n (pc := 14) hC dX11_merge_14 rfl ?_
        refine x_iload_n (pc := 15) hC dX11_merge_15 rfl ?_
        refine x_mV (pc := 16) hC cv_X11_123 dX11_merge_16 (rl_at h hI hd) (fx_ta hx) rfl (by decide) rfl rfl (Nat.le_of_ble_eq_true rfl) ?_
        dsimp only [Option.toList, List.cons_append, List.nil_append]
        refine x_astore (pc := 19) hC dX11_merge_19 (Nat.le_of_ble_eq_true rfl) ?_
        dsimp only [List.set]
        refine x_aload (pc := 21) hC dX11_merge_21 rfl ?_
        refine x_ifnull (pc := 23) hC 36 dX11_merge_23 (by decide) (fun h => by cases h) (fun _ _ => ?_)
        refine x_aload (pc := 26) hC dX11_merge_26 rfl ?_
        refine x_ifnull (pc := 28) hC 36 dX11_merge_28 (by decide) (fun h => by cases h) (fun _ _ => ?_)
        refine x_aload (pc := 31) hC dX11_merge_31 rfl ?_
        refine x_ifnonnull (pc := 33) hC 38 dX11_merge_33 (by decide) (fun _ _ => ?_) (fun h => by cases h)
        refine x_iload (pc := 38) hC dX11_merge_38 rfl ?_
        refine x_if_lt (pc := 40) hC 49 dX11_merge_40 (by decide) (by omega) (fun b40 => ?_) (fun b40 => ?_)
        · refine x_iload (pc := 49) hC dX11_merge_49 rfl ?_
          refine x_bipush (pc := 51) hC dX11_merge_51 (by decide) ?_
          refine x_isubW (pc := 53) hC dX11_merge_53 rv (by decide) (fun v1 r1 e9 => ?_)
          refine x_mS (pc := 54) hC cs_X11_149 dX11_merge_54 (c_isLineIndex r1) rfl (by decide) rfl rfl (Nat.le_of_ble_eq_true rfl) ?_
          dsimp only [Option.toList, List.cons_append, List.nil_append]
          refine x_ifB_ne (pc := 57) hC 63 dX11_merge_57 (by decide) (fun b57 => ?_) (fun b57 => ?_)
          · have hv : (0 ≤ v ∧ v ≤ 2) ∨ (10 ≤ v ∧ v ≤ 25) := by omega
            rw [if_pos hv]
            refine x_aload_n (pc := 63) hC dX11_merge_63 rfl ?_
            refine x_getO (pc := 64) hC gf_X11_36 dX11_merge_64 (fx_ta hx) (fx_mg hx).1 ?_
            refine x_aload (pc := 67) hC dX11_merge_67 rfl ?_
            refine x_getO (pc := 69) hC (gp_X11_133 kb) dX11_merge_69 rfl wb.2.2.1 ?_
            refine x_aload (pc := 72) hC dX11_merge_72 rfl ?_
            refine x_getO (pc := 74) hC (gp_X11_133 kc) dX11_merge_74 rfl wc.2.2.1 ?_
            refine x_aload (pc := 77) hC dX11_merge_77 rfl ?_
            refine x_getO (pc := 79) hC (gp_X11_133 kd) dX11_merge_79 rfl wd.2.2.1 ?_
            refine x_bipush (pc := 82) hC dX11_merge_82 (by decide) ?_
            refine x_rV (pc := 84) hC cv_X11_187 dX11_merge_84 hmg (fx_mg hx).2.1 rfl (by decide) rfl rfl (Nat.le_of_ble_eq_true rfl) ?_
            rintro v9 J S ⟨rfl, mV, ⟨m1, m2⟩, m3, m4⟩
            dsimp only [Option.toList, List.nil_append]
            have s1 : scK T N a I J R S := sc_mg mV
            have h1 := rl_sc h s1
            have hx1 := rl_fx h1
            obtain ⟨-, ⟨x1, x2, x3⟩, -⟩ := mV
            have x4 := x1.1
            refine x_iload (pc := 87) hC dX11_merge_87 rfl ?_
            refine x_if_ne (pc := 89) hC 100 dX11_merge_89 (by decide) (by omega) (fun b89 => ?_) (fun b89 => ?_)
            · refine x_iload (pc := 100) hC dX11_merge_100 rfl ?_
              refine x_iconst (pc := 102) hC dX11_merge_102 ?_
              refine x_icmp_ne (pc := 103) hC 114 dX11_merge_103 (by decide) (by omega) (by omega) (fun b103 => ?_) (fun b103 => ?_)
              · refine x_aload_n (pc := 114) hC dX11_merge_114 rfl ?_
                refine x_getO (pc := 115) hC gf_X11_36 dX11_merge_115 (fx_ta hx) (fx_mg hx1).1 ?_
                refine x_getI (pc := 118) hC gf_X11_219 dX11_merge_118 (fx_mg hx1).2.1 ?_
                rw [x3]
                refine x_if_le (pc := 121) hC 127 dX11_merge_121 (by decide) (by omega) (fun b121 => ?_) (fun b121 => ?_)
                · refine x_iload (pc := 127) hC dX11_merge_127 rfl ?_
                  refine x_iconst (pc := 129) hC dX11_merge_129 ?_
                  refine x_icmp_ne (pc := 130) hC 143 dX11_merge_130 (by decide) (by omega) (by omega) (fun b130 => ?_) (fun b130 => ?_)
                  · refine x_aload_n (pc := 143) hC dX11_merge_143 rfl ?_
                    refine x_getO (pc := 144) hC gf_X11_36 dX11_merge_144 (fx_ta hx) (fx_mg hx1).1 ?_
                    refine x_iload (pc := 147) hC dX11_merge_147 rfl ?_
                    refine x_bipush (pc := 149) hC dX11_merge_149 (by decide) ?_
                    refine x_isubW (pc := 151) hC dX11_merge_151 rv (by decide) (fun v2 r2 e8 => ?_)
                    refine x_mV (pc := 152) hC cv_X11_222 dX11_merge_152 (c_resultLine (fx_mg hx1).2 x1 m1 (by omega) r2) (fx_mg hx1).2.1 rfl (by decide) rfl rfl (Nat.le_of_ble_eq_true rfl) ?_
                    dsimp only [Option.toList, List.cons_append, List.nil_append]
                    refine x_iret (pc := 155) hC rfl dX11_merge_155 ?_
                    refine ⟨⟨?_, s1⟩, rfl, rfl, rfl⟩
                    first
                    | (rw [if_neg (show ¬ v = 0 by omega), if_neg (show ¬ v = 1 by omega), if_neg (show ¬ M.2.2.length > 0 by omega), if_pos (by assumption), x4]; done)
                    | (rw [if_neg (show ¬ v = 0 by omega), if_neg (show ¬ v = 1 by omega), if_neg (show ¬ M.2.2.length > 0 by omega), if_neg (by assumption), show v2 = v - 10 by omega]; done)
                  · refine x_aload_n (pc := 133) hC dX11_merge_133 rfl ?_
                    refine x_getO (pc := 134) hC gf_X11_36 dX11_merge_134 (fx_ta hx) (fx_mg hx1).1 ?_
                    refine x_getI (pc := 137) hC gf_X11_194 dX11_merge_137 (fx_mg hx1).2.1 ?_
                    refine x_goto (pc := 140) hC 155 dX11_merge_140 (by decide) ?_
                    refine x_iret (pc := 155) hC rfl dX11_merge_155 ?_
                    refine ⟨⟨?_, s1⟩, rfl, rfl, rfl⟩
                    first
                    | (rw [if_neg (show ¬ v = 0 by omega), if_neg (show ¬ v = 1 by omega), if_neg (show ¬ M.2.2.length > 0 by omega), if_pos (by assumption), x4]; done)
                    | (rw [if_neg (show ¬ v = 0 by omega), if_neg (show ¬ v = 1 by omega), if_neg (show ¬ M.2.2.length > 0 by omega), if_neg (by assumption), show v2 = v - 10 by omega]; done)
                · refine x_bipush (pc := 124) hC dX11_merge_124 (by decide) ?_
                  refine x_iret (pc := 126) hC rfl dX11_merge_126 ?_
                  refine ⟨⟨?_, s1⟩, rfl, rfl, rfl⟩
                  rw [if_neg (by omega), if_neg (by omega), if_pos (by omega)]
              · refine x_aload_n (pc := 106) hC dX11_merge_106 rfl ?_
                refine x_getO (pc := 107) hC gf_X11_36 dX11_merge_107 (fx_ta hx) (fx_mg hx1).1 ?_
                refine x_getI (pc := 110) hC gf_X11_219 dX11_merge_110 (fx_mg hx1).2.1 ?_
                refine x_iret (pc := 113) hC rfl dX11_merge_113 ?_
                refine ⟨⟨?_, s1⟩, rfl, rfl, rfl⟩
                rw [if_neg (by omega), if_pos (by assumption), x3]
            · refine x_aload_n (pc := 92) hC dX11_merge_92 rfl ?_
              refine x_getO (pc := 93) hC gf_X11_36 dX11_merge_93 (fx_ta hx) (fx_mg hx1).1 ?_
              refine x_getI (pc := 96) hC gf_X11_191 dX11_merge_96 (fx_mg hx1).2.1 ?_
              skip
              refine x_iret (pc := 99) hC rfl dX11_merge_99 ?_
              refine ⟨⟨?_, s1⟩, rfl, rfl, rfl⟩
              rw [if_pos (by assumption), x2]
          · refine x_bipush (pc := 60) hC dX11_merge_60 (by decide) ?_
            refine x_iret (pc := 62) hC rfl dX11_merge_62 ?_
            refine ⟨⟨?_, scK.rf⟩, rfl, rfl, rfl⟩
            rw [if_neg (by omega)]
        · refine x_iload (pc := 43) hC dX11_merge_43 rfl ?_
          refine x_iconst (pc := 45) hC dX11_merge_45 ?_
          refine x_icmp_le (pc := 46) hC 63 dX11_merge_46 (by decide) (by omega) (by omega) (fun b46 => ?_) (fun b46 => ?_)
          · have hv : (0 ≤ v ∧ v ≤ 2) ∨ (10 ≤ v ∧ v ≤ 25) := by omega
            rw [if_pos hv]
            refine x_aload_n (pc := 63) hC dX11_merge_63 rfl ?_
            refine x_getO (pc := 64) hC gf_X11_36 dX11_merge_64 (fx_ta hx) (fx_mg hx).1 ?_
            refine x_aload (pc := 67) hC dX11_merge_67 rfl ?_
            refine x_getO (pc := 69) hC (gp_X11_133 kb) dX11_merge_69 rfl wb.2.2.1 ?_
            refine x_aload (pc := 72) hC dX11_merge_72 rfl ?_
            refine x_getO (pc := 74) hC (gp_X11_133 kc) dX11_merge_74 rfl wc.2.2.1 ?_
            refine x_aload (pc := 77) hC dX11_merge_77 rfl ?_
            refine x_getO (pc := 79) hC (gp_X11_133 kd) dX11_merge_79 rfl wd.2.2.1 ?_
            refine x_bipush (pc := 82) hC dX11_merge_82 (by decide) ?_
            refine x_rV (pc := 84) hC cv_X11_187 dX11_merge_84 hmg (fx_mg hx).2.1 rfl (by decide) rfl rfl (Nat.le_of_ble_eq_true rfl) ?_
            rintro v9 J S ⟨rfl, mV, ⟨m1, m2⟩, m3, m4⟩
            dsimp only [Option.toList, List.nil_append]
            have s1 : scK T N a I J R S := sc_mg mV
            have h1 := rl_sc h s1
            have hx1 := rl_fx h1
            obtain ⟨-, ⟨x1, x2, x3⟩, -⟩ := mV
            have x4 := x1.1
            refine x_iload (pc := 87) hC dX11_merge_87 rfl ?_
            refine x_if_ne (pc := 89) hC 100 dX11_merge_89 (by decide) (by omega) (fun b89 => ?_) (fun b89 => ?_)
            · refine x_iload (pc := 100) hC dX11_merge_100 rfl ?_
              refine x_iconst (pc := 102) hC dX11_merge_102 ?_
              refine x_icmp_ne (pc := 103) hC 114 dX11_merge_103 (by decide) (by omega) (by omega) (fun b103 => ?_) (fun b103 => ?_)
              · refine x_aload_n (pc := 114) hC dX11_merge_114 rfl ?_
                refine x_getO (pc := 115) hC gf_X11_36 dX11_merge_115 (fx_ta hx) (fx_mg hx1).1 ?_
                refine x_getI (pc := 118) hC gf_X11_219 dX11_merge_118 (fx_mg hx1).2.1 ?_
                rw [x3]
                refine x_if_le (pc := 121) hC 127 dX11_merge_121 (by decide) (by omega) (fun b121 => ?_) (fun b121 => ?_)
                · refine x_iload (pc := 127) hC dX11_merge_127 rfl ?_
                  refine x_iconst (pc := 129) hC dX11_merge_129 ?_
                  refine x_icmp_ne (pc := 130) hC 143 dX11_merge_130 (by decide) (by omega) (by omega) (fun b130 => ?_) (fun b130 => ?_)
                  · refine x_aload_n (pc := 143) hC dX11_merge_143 rfl ?_
                    refine x_getO (pc := 144) hC gf_X11_36 dX11_merge_144 (fx_ta hx) (fx_mg hx1).1 ?_
                    refine x_iload (pc := 147) hC dX11_merge_147 rfl ?_
                    refine x_bipush (pc := 149) hC dX11_merge_149 (by decide) ?_
                    refine x_isubW (pc := 151) hC dX11_merge_151 rv (by decide) (fun v2 r2 e8 => ?_)
                    refine x_mV (pc := 152) hC cv_X11_222 dX11_merge_152 (c_resultLine (fx_mg hx1).2 x1 m1 (by omega) r2) (fx_mg hx1).2.1 rfl (by decide) rfl rfl (Nat.le_of_ble_eq_true rfl) ?_
                    dsimp only [Option.toList, List.cons_append, List.nil_append]
                    refine x_iret (pc := 155) hC rfl dX11_merge_155 ?_
                    refine ⟨⟨?_, s1⟩, rfl, rfl, rfl⟩
                    first
                    | (rw [if_neg (show ¬ v = 0 by omega), if_neg (show ¬ v = 1 by omega), if_neg (show ¬ M.2.2.length > 0 by omega), if_pos (by assumption), x4]; done)
                    | (rw [if_neg (show ¬ v = 0 by omega), if_neg (show ¬ v = 1 by omega), if_neg (show ¬ M.2.2.length > 0 by omega), if_neg (by assumption), show v2 = v - 10 by omega]; done)
                  · refine x_aload_n (pc := 133) hC dX11_merge_133 rfl ?_
                    refine x_getO (pc := 134) hC gf_X11_36 dX11_merge_134 (fx_ta hx) (fx_mg hx1).1 ?_
                    refine x_getI (pc := 137) hC gf_X11_194 dX11_merge_137 (fx_mg hx1).2.1 ?_
                    refine x_goto (pc := 140) hC 155 dX11_merge_140 (by decide) ?_
                    refine x_iret (pc := 155) hC rfl dX11_merge_155 ?_
                    refine ⟨⟨?_, s1⟩, rfl, rfl, rfl⟩
                    first
                    | (rw [if_neg (show ¬ v = 0 by omega), if_neg (show ¬ v = 1 by omega), if_neg (show ¬ M.2.2.length > 0 by omega), if_pos (by assumption), x4]; done)
                    | (rw [if_neg (show ¬ v = 0 by omega), if_neg (show ¬ v = 1 by omega), if_neg (show ¬ M.2.2.length > 0 by omega), if_neg (by assumption), show v2 = v - 10 by omega]; done)
                · refine x_bipush (pc := 124) hC dX11_merge_124 (by decide) ?_
                  refine x_iret (pc := 126) hC rfl dX11_merge_126 ?_
                  refine ⟨⟨?_, s1⟩, rfl, rfl, rfl⟩
                  rw [if_neg (by omega), if_neg (by omega), if_pos (by omega)]
              · refine x_aload_n (pc := 106) hC dX11_merge_106 rfl ?_
                refine x_getO (pc := 107) hC gf_X11_36 dX11_merge_107 (fx_ta hx) (fx_mg hx1).1 ?_
                refine x_getI (pc := 110) hC gf_X11_219 dX11_merge_110 (fx_mg hx1).2.1 ?_
                refine x_iret (pc := 113) hC rfl dX11_merge_113 ?_
                refine ⟨⟨?_, s1⟩, rfl, rfl, rfl⟩
                rw [if_neg (by omega), if_pos (by assumption), x3]
            · refine x_aload_n (pc := 92) hC dX11_merge_92 rfl ?_
              refine x_getO (pc := 93) hC gf_X11_36 dX11_merge_93 (fx_ta hx) (fx_mg hx1).1 ?_
              refine x_getI (pc := 96) hC gf_X11_191 dX11_merge_96 (fx_mg hx1).2.1 ?_
              skip
              refine x_iret (pc := 99) hC rfl dX11_merge_99 ?_
              refine ⟨⟨?_, s1⟩, rfl, rfl, rfl⟩
              rw [if_pos (by assumption), x2]
          · refine x_iload (pc := 49) hC dX11_merge_49 rfl ?_
            refine x_bipush (pc := 51) hC dX11_merge_51 (by decide) ?_
            refine x_isubW (pc := 53) hC dX11_merge_53 rv (by decide) (fun v1 r1 e9 => ?_)
            refine x_mS (pc := 54) hC cs_X11_149 dX11_merge_54 (c_isLineIndex r1) rfl (by decide) rfl rfl (Nat.le_of_ble_eq_true rfl) ?_
            dsimp only [Option.toList, List.cons_append, List.nil_append]
            refine x_ifB_ne (pc := 57) hC 63 dX11_merge_57 (by decide) (fun b57 => ?_) (fun b57 => ?_)
            · have hv : (0 ≤ v ∧ v ≤ 2) ∨ (10 ≤ v ∧ v ≤ 25) := by omega
              rw [if_pos hv]
              refine x_aload_n (pc := 63) hC dX11_merge_63 rfl ?_
              refine x_getO (pc := 64) hC gf_X11_36 dX11_merge_64 (fx_ta hx) (fx_mg hx).1 ?_
              refine x_aload (pc := 67) hC dX11_merge_67 rfl ?_
              refine x_getO (pc := 69) hC (gp_X11_133 kb) dX11_merge_69 rfl wb.2.2.1 ?_
              refine x_aload (pc := 72) hC dX11_merge_72 rfl ?_
              refine x_getO (pc := 74) hC (gp_X11_133 kc) dX11_merge_74 rfl wc.2.2.1 ?_
              refine x_aload (pc := 77) hC dX11_merge_77 rfl ?_
              refine x_getO (pc := 79) hC (gp_X11_133 kd) dX11_merge_79 rfl wd.2.2.1 ?_
              refine x_bipush (pc := 82) hC dX11_merge_82 (by decide) ?_
              refine x_rV (pc := 84) hC cv_X11_187 dX11_merge_84 hmg (fx_mg hx).2.1 rfl (by decide) rfl rfl (Nat.le_of_ble_eq_true rfl) ?_
              rintro v9 J S ⟨rfl, mV, ⟨m1, m2⟩, m3, m4⟩
              dsimp only [Option.toList, List.nil_append]
              have s1 : scK T N a I J R S := sc_mg mV
              have h1 := rl_sc h s1
              have hx1 := rl_fx h1
              obtain ⟨-, ⟨x1, x2, x3⟩, -⟩ := mV
              have x4 := x1.1
              refine x_iload (pc := 87) hC dX11_merge_87 rfl ?_
              refine x_if_ne (pc := 89) hC 100 dX11_merge_89 (by decide) (by omega) (fun b89 => ?_) (fun b89 => ?_)
              · refine x_iload (pc := 100) hC dX11_merge_100 rfl ?_
                refine x_iconst (pc := 102) hC dX11_merge_102 ?_
                refine x_icmp_ne (pc := 103) hC 114 dX11_merge_103 (by decide) (by omega) (by omega) (fun b103 => ?_) (fun b103 => ?_)
                · refine x_aload_n (pc := 114) hC dX11_merge_114 rfl ?_
                  refine x_getO (pc := 115) hC gf_X11_36 dX11_merge_115 (fx_ta hx) (fx_mg hx1).1 ?_
                  refine x_getI (pc := 118) hC gf_X11_219 dX11_merge_118 (fx_mg hx1).2.1 ?_
                  rw [x3]
                  refine x_if_le (pc := 121) hC 127 dX11_merge_121 (by decide) (by omega) (fun b121 => ?_) (fun b121 => ?_)
                  · refine x_iload (pc := 127) hC dX11_merge_127 rfl ?_
                    refine x_iconst (pc := 129) hC dX11_merge_129 ?_
                    refine x_icmp_ne (pc := 130) hC 143 dX11_merge_130 (by decide) (by omega) (by omega) (fun b130 => ?_) (fun b130 => ?_)
                    · refine x_aload_n (pc := 143) hC dX11_merge_143 rfl ?_
                      refine x_getO (pc := 144) hC gf_X11_36 dX11_merge_144 (fx_ta hx) (fx_mg hx1).1 ?_
                      refine x_iload (pc := 147) hC dX11_merge_147 rfl ?_
                      refine x_bipush (pc := 149) hC dX11_merge_149 (by decide) ?_
                      refine x_isubW (pc := 151) hC dX11_merge_151 rv (by decide) (fun v2 r2 e8 => ?_)
                      refine x_mV (pc := 152) hC cv_X11_222 dX11_merge_152 (c_resultLine (fx_mg hx1).2 x1 m1 (by omega) r2) (fx_mg hx1).2.1 rfl (by decide) rfl rfl (Nat.le_of_ble_eq_true rfl) ?_
                      dsimp only [Option.toList, List.cons_append, List.nil_append]
                      refine x_iret (pc := 155) hC rfl dX11_merge_155 ?_
                      refine ⟨⟨?_, s1⟩, rfl, rfl, rfl⟩
                      first
                      | (rw [if_neg (show ¬ v = 0 by omega), if_neg (show ¬ v = 1 by omega), if_neg (show ¬ M.2.2.length > 0 by omega), if_pos (by assumption), x4]; done)
                      | (rw [if_neg (show ¬ v = 0 by omega), if_neg (show ¬ v = 1 by omega), if_neg (show ¬ M.2.2.length > 0 by omega), if_neg (by assumption), show v2 = v - 10 by omega]; done)
                    · refine x_aload_n (pc := 133) hC dX11_merge_133 rfl ?_
                      refine x_getO (pc := 134) hC gf_X11_36 dX11_merge_134 (fx_ta hx) (fx_mg hx1).1 ?_
                      refine x_getI (pc := 137) hC gf_X11_194 dX11_merge_137 (fx_mg hx1).2.1 ?_
                      refine x_goto (pc := 140) hC 155 dX11_merge_140 (by decide) ?_
                      refine x_iret (pc := 155) hC rfl dX11_merge_155 ?_
                      refine ⟨⟨?_, s1⟩, rfl, rfl, rfl⟩
                      first
                      | (rw [if_neg (show ¬ v = 0 by omega), if_neg (show ¬ v = 1 by omega), if_neg (show ¬ M.2.2.length > 0 by omega), if_pos (by assumption), x4]; done)
                      | (rw [if_neg (show ¬ v = 0 by omega), if_neg (show ¬ v = 1 by omega), if_neg (show ¬ M.2.2.length > 0 by omega), if_neg (by assumption), show v2 = v - 10 by omega]; done)
                  · refine x_bipush (pc := 124) hC dX11_merge_124 (by decide) ?_
                    refine x_iret (pc := 126) hC rfl dX11_merge_126 ?_
                    refine ⟨⟨?_, s1⟩, rfl, rfl, rfl⟩
                    rw [if_neg (by omega), if_neg (by omega), if_pos (by omega)]
                · refine x_aload_n (pc := 106) hC dX11_merge_106 rfl ?_
                  refine x_getO (pc := 107) hC gf_X11_36 dX11_merge_107 (fx_ta hx) (fx_mg hx1).1 ?_
                  refine x_getI (pc := 110) hC gf_X11_219 dX11_merge_110 (fx_mg hx1).2.1 ?_
                  refine x_iret (pc := 113) hC rfl dX11_merge_113 ?_
                  refine ⟨⟨?_, s1⟩, rfl, rfl, rfl⟩
                  rw [if_neg (by omega), if_pos (by assumption), x3]
              · refine x_aload_n (pc := 92) hC dX11_merge_92 rfl ?_
                refine x_getO (pc := 93) hC gf_X11_36 dX11_merge_93 (fx_ta hx) (fx_mg hx1).1 ?_
                refine x_getI (pc := 96) hC gf_X11_191 dX11_merge_96 (fx_mg hx1).2.1 ?_
                skip
                refine x_iret (pc := 99) hC rfl dX11_merge_99 ?_
                refine ⟨⟨?_, s1⟩, rfl, rfl, rfl⟩
                rw [if_pos (by assumption), x2]
            · refine x_bipush (pc := 60) hC dX11_merge_60 (by decide) ?_
              refine x_iret (pc := 62) hC rfl dX11_merge_62 ?_
              refine ⟨⟨?_, scK.rf⟩, rfl, rfl, rfl⟩
              rw [if_neg (by omega)]
      · rw [if_neg (fun h9 => hd h9.2.2)]
        refine x_aload_n (pc := 0) hC dX11_merge_0 rfl ?_
        refine x_iload_n (pc := 1) hC dX11_merge_1 rfl ?_
        refine x_mV (pc := 2) hC cv_X11_123 dX11_merge_2 (rl_at h hI hb) (fx_ta hx) rfl (by decide) rfl rfl (Nat.le_of_ble_eq_true rfl) ?_
        dsimp only [Option.toList, List.cons_append, List.nil_append]
        refine x_astore (pc := 5) hC dX11_merge_5 (Nat.le_of_ble_eq_true rfl) ?_
        dsimp only [List.set]
        refine x_aload_n (pc := 7) hC dX11_merge_7 rfl ?_
        refine x_iload_n (pc := 8) hC dX11_merge_8 rfl ?_
        refine x_mV (pc := 9) hC cv_X11_123 dX11_merge_9 (rl_at h hI hc) (fx_ta hx) rfl (by decide) rfl rfl (Nat.le_of_ble_eq_true rfl) ?_
        dsimp only [Option.toList, List.cons_append, List.nil_append]
        refine x_astore (pc := 12) hC dX11_merge_12 (Nat.le_of_ble_eq_true rfl) ?_
        dsimp only [List.set]
        refine x_aload_n (pc := 14) hC dX11_merge_14 rfl ?_
        refine x_iload_n (pc := 15) hC dX11_merge_15 rfl ?_
        refine x_mV (pc := 16) hC cv_X11_123 dX11_merge_16 (rl_no h hI rd hd) (fx_ta hx) rfl (by decide) rfl rfl (Nat.le_of_ble_eq_true rfl) ?_
        dsimp only [Option.toList, List.cons_append, List.nil_append]
        refine x_astore (pc := 19) hC dX11_merge_19 (Nat.le_of_ble_eq_true rfl) ?_
        dsimp only [List.set]
        refine x_aload (pc := 21) hC dX11_merge_21 rfl ?_
        refine x_ifnull (pc := 23) hC 36 dX11_merge_23 (by decide) (fun h => by cases h) (fun _ _ => ?_)
        refine x_aload (pc := 26) hC dX11_merge_26 rfl ?_
        refine x_ifnull (pc := 28) hC 36 dX11_merge_28 (by decide) (fun h => by cases h) (fun _ _ => ?_)
        refine x_aload (pc := 31) hC dX11_merge_31 rfl ?_
        refine x_ifnonnull (pc := 33) hC 38 dX11_merge_33 (by decide) (fun _ h => by cases h) (fun _ => ?_)
        refine x_iconst (pc := 36) hC dX11_merge_36 ?_
        refine x_iret (pc := 37) hC rfl dX11_merge_37 ?_
        exact ⟨⟨rfl, scK.rf⟩, rfl, rfl, rfl⟩
    · rw [if_neg (fun h9 => hc h9.2.1)]
      refine x_aload_n (pc := 0) hC dX11_merge_0 rfl ?_
      refine x_iload_n (pc := 1) hC dX11_merge_1 rfl ?_
      refine x_mV (pc := 2) hC cv_X11_123 dX11_merge_2 (rl_at h hI hb) (fx_ta hx) rfl (by decide) rfl rfl (Nat.le_of_ble_eq_true rfl) ?_
      dsimp only [Option.toList, List.cons_append, List.nil_append]
      refine x_astore (pc := 5) hC dX11_merge_5 (Nat.le_of_ble_eq_true rfl) ?_
      dsimp only [List.set]
      refine x_aload_n (pc := 7) hC dX11_merge_7 rfl ?_
      refine x_iload_n (pc := 8) hC dX11_merge_8 rfl ?_
      refine x_mV (pc := 9) hC cv_X11_123 dX11_merge_9 (rl_no h hI rc hc) (fx_ta hx) rfl (by decide) rfl rfl (Nat.le_of_ble_eq_true rfl) ?_
      dsimp only [Option.toList, List.cons_append, List.nil_append]
      refine x_astore (pc := 12) hC dX11_merge_12 (Nat.le_of_ble_eq_true rfl) ?_
      dsimp only [List.set]
      refine x_aload_n (pc := 14) hC dX11_merge_14 rfl ?_
      refine x_iload_n (pc := 15) hC dX11_merge_15 rfl ?_
      refine x_mV (pc := 16) hC cv_X11_123 dX11_merge_16 (c_commitAt hx (c := d) rd (by omega)) (fx_ta hx) rfl (by decide) rfl rfl (Nat.le_of_ble_eq_true rfl) ?_
      dsimp only [Option.toList, List.cons_append, List.nil_append]
      refine x_astore (pc := 19) hC dX11_merge_19 (Nat.le_of_ble_eq_true rfl) ?_
      dsimp only [List.set]
      refine x_aload (pc := 21) hC dX11_merge_21 rfl ?_
      refine x_ifnull (pc := 23) hC 36 dX11_merge_23 (by decide) (fun h => by cases h) (fun _ _ => ?_)
      refine x_aload (pc := 26) hC dX11_merge_26 rfl ?_
      refine x_ifnull (pc := 28) hC 36 dX11_merge_28 (by decide) (fun _ => ?_) (fun _ h => by cases h)
      refine x_iconst (pc := 36) hC dX11_merge_36 ?_
      refine x_iret (pc := 37) hC rfl dX11_merge_37 ?_
      exact ⟨⟨rfl, scK.rf⟩, rfl, rfl, rfl⟩
  · rw [if_neg (fun h9 => hb h9.1)]
    refine x_aload_n (pc := 0) hC dX11_merge_0 rfl ?_
    refine x_iload_n (pc := 1) hC dX11_merge_1 rfl ?_
    refine x_mV (pc := 2) hC cv_X11_123 dX11_merge_2 (rl_no h hI rb hb) (fx_ta hx) rfl (by decide) rfl rfl (Nat.le_of_ble_eq_true rfl) ?_
    dsimp only [Option.toList, List.cons_append, List.nil_append]
    refine x_astore (pc := 5) hC dX11_merge_5 (Nat.le_of_ble_eq_true rfl) ?_
    dsimp only [List.set]
    refine x_aload_n (pc := 7) hC dX11_merge_7 rfl ?_
    refine x_iload_n (pc := 8) hC dX11_merge_8 rfl ?_
    refine x_mV (pc := 9) hC cv_X11_123 dX11_merge_9 (c_commitAt hx (c := c) rc (by omega)) (fx_ta hx) rfl (by decide) rfl rfl (Nat.le_of_ble_eq_true rfl) ?_
    dsimp only [Option.toList, List.cons_append, List.nil_append]
    refine x_astore (pc := 12) hC dX11_merge_12 (Nat.le_of_ble_eq_true rfl) ?_
    dsimp only [List.set]
    refine x_aload_n (pc := 14) hC dX11_merge_14 rfl ?_
    refine x_iload_n (pc := 15) hC dX11_merge_15 rfl ?_
    refine x_mV (pc := 16) hC cv_X11_123 dX11_merge_16 (c_commitAt hx (c := d) rd (by omega)) (fx_ta hx) rfl (by decide) rfl rfl (Nat.le_of_ble_eq_true rfl) ?_
    dsimp only [Option.toList, List.cons_append, List.nil_append]
    refine x_astore (pc := 19) hC dX11_merge_19 (Nat.le_of_ble_eq_true rfl) ?_
    dsimp only [List.set]
    refine x_aload (pc := 21) hC dX11_merge_21 rfl ?_
    refine x_ifnull (pc := 23) hC 36 dX11_merge_23 (by decide) (fun _ => ?_) (fun _ h => by cases h)
    refine x_iconst (pc := 36) hC dX11_merge_36 ?_
    refine x_iret (pc := 37) hC rfl dX11_merge_37 ?_
    exact ⟨⟨rfl, scK.rf⟩, rfl, rfl, rfl⟩

set_option maxHeartbeats 4000000 in
set_option maxRecDepth 100000 in
theorem c_isReached {G : ax_G} {T : Nat → Nat} {N : Nat → Int} {I : Nat → Int → Int} {R : Nat → Int → Option Nat} {z a o : Nat} {σ : Nat → Int → Int} {A w : Int → Nat} (h : RelA G T N I R z a o σ A w) (hI : miC σ o) {c : Int} (hc : 0 ≤ c ∧ c < σ o 2) : axE G YX11_isReached 1 [vR a, vR (A c)] T N I R z (some (vI (bI (c ∈ path (σ (o + 2)) (σ (o + 7) 0) ∨ c ∈ path (σ (o + 2)) (σ (o + 7) 1) ∨ c ∈ path (σ (o + 2)) (σ (o + 7) 2) ∨ c ∈ path (σ (o + 2)) (σ (o + 7) 3))))) I := by
  refine ax_enter (by decide) (Nat.le_of_ble_eq_true rfl) (ax_cat rfl) (fun f hC => ?_)
  show axX G f 0 0 _ 0 [vR a, vR (A c), vU] [] T N I R z 0 0
  have hx := rl_fx h
  have k1 := ((rl_cs h).2 c hc.1 hc.2).1
  have loop : ∀ (n : Nat) (x : Int), (4 - x).toNat ≤ n → 0 ≤ x → x ≤ 4 → (∀ j, 0 ≤ j → j < x → c ∉ path (σ (o + 2)) (σ (o + 7) j)) → axX G f 0 0 (fun r1 T1 N1 I1 R1 z1 => r1 = some (vI (bI (c ∈ path (σ (o + 2)) (σ (o + 7) 0) ∨ c ∈ path (σ (o + 2)) (σ (o + 7) 1) ∨ c ∈ path (σ (o + 2)) (σ (o + 7) 2) ∨ c ∈ path (σ (o + 2)) (σ (o + 7) 3)))) ∧ T1 = T ∧ N1 = N ∧ I1 = I ∧ R1 = R ∧ z1 = z) 2 [vR a, vR (A c), vI x] [] T N I R z 0 0 := by
    intro n
    have dn : ∀ x, x = 4 → (∀ j, 0 ≤ j → j < x → c ∉ path (σ (o + 2)) (σ (o + 7) j)) → bI (c ∈ path (σ (o + 2)) (σ (o + 7) 0) ∨ c ∈ path (σ (o + 2)) (σ (o + 7) 1) ∨ c ∈ path (σ (o + 2)) (σ (o + 7) 2) ∨ c ∈ path (σ (o + 2)) (σ (o + 7) 3)) = 0 := fun x hx hj => by
      subst hx
      have := hj 0 (by decide) (by decide)
      have := hj 1 (by decide) (by decide)
      have := hj 2 (by decide) (by decide)
      have := hj 3 (by decide) (by decide)
      exact bI_f (by simp [*])
    induction n with
    | zero =>
      intro x hn h0 h1 hj
      refine x_iload_n (pc := 2) hC dX11_isReached_2 rfl ?_
      refine x_iconst (pc := 3) hC dX11_isReached_3 ?_
      refine x_icmp_ge (pc := 4) hC 28 dX11_isReached_4 (by decide) (by omega) (by omega) (fun b4 => ?_) (fun b4 => ?_)
      · refine x_iconst (pc := 28) hC dX11_isReached_28 ?_
        refine x_zret (pc := 29) hC rfl dX11_isReached_29 (Or.inl rfl) ?_
        rw [dn x (by omega) hj]
        exact ⟨rfl, rfl, rfl, rfl, rfl, rfl⟩
      · omega
    | succ n ih =>
      intro x hn h0 h1 hj
      refine x_iload_n (pc := 2) hC dX11_isReached_2 rfl ?_
      refine x_iconst (pc := 3) hC dX11_isReached_3 ?_
      refine x_icmp_ge (pc := 4) hC 28 dX11_isReached_4 (by decide) (by omega) (by omega) (fun b4 => ?_) (fun b4 => ?_)
      · refine x_iconst (pc := 28) hC dX11_isReached_28 ?_
        refine x_zret (pc := 29) hC rfl dX11_isReached_29 (Or.inl rfl) ?_
        rw [dn x (by omega) hj]
        exact ⟨rfl, rfl, rfl, rfl, rfl, rfl⟩
      · have htx := hI.2.2.2.2.1 x h0 (by omega)
        have kt := ((rl_cs h).2 _ htx.1 htx.2).1
        refine x_aload_n (pc := 7) hC dX11_isReached_7 rfl ?_
        refine x_aload_n (pc := 8) hC dX11_isReached_8 rfl ?_
        refine x_getO (pc := 9) hC gf_X11_24 dX11_isReached_9 (fx_ta hx) (fx_tp hx).1 ?_
        refine x_iload_n (pc := 12) hC dX11_isReached_12 rfl ?_
        refine x_aald (pc := 13) hC axEl_15 dX11_isReached_13 (fx_tp hx).2.1 (by omega) (by rw [(fx_tp hx).2.2]; omega) (rl_tp h x h0 (by omega)) ?_
        refine x_mU (pc := 14) hC (cq_X11_179 k1) dX11_isReached_14 (c_isOnPathOf (rl_cs h) hc htx) rfl rfl (by decide) rfl rfl (Nat.le_of_ble_eq_true rfl) ?_
        dsimp only [Option.toList, List.cons_append, List.nil_append]
        refine x_ifB_eq (pc := 17) hC 22 dX11_isReached_17 (by decide) (fun b17 => ?_) (fun b17 => ?_)
        · refine x_iinc (pc := 22) hC dX11_isReached_22 rfl ?_
          dsimp only [List.set]
          refine x_goto (pc := 25) hC 2 dX11_isReached_25 (by decide) ?_
          refine ih (x + 1) (by omega) (by omega) (by omega) (fun j a1 a2 => ?_)
          by_cases h9 : j = x
          · rw [h9]; exact b17
          · exact hj j a1 (by omega)
        · refine x_iconst (pc := 20) hC dX11_isReached_20 ?_
          refine x_zret (pc := 21) hC rfl dX11_isReached_21 (Or.inr rfl) ?_
          refine ⟨?_, rfl, rfl, rfl, rfl, rfl⟩
          have hx4 : x = 0 ∨ x = 1 ∨ x = 2 ∨ x = 3 := by omega
          rw [bI_t (P := (c ∈ path (σ (o + 2)) (σ (o + 7) 0) ∨ c ∈ path (σ (o + 2)) (σ (o + 7) 1) ∨ c ∈ path (σ (o + 2)) (σ (o + 7) 2) ∨ c ∈ path (σ (o + 2)) (σ (o + 7) 3))) (by rcases hx4 with e | e | e | e <;> rw [e] at b17 <;> simp [b17])]
  refine x_iconst (pc := 0) hC dX11_isReached_0 ?_
  refine x_istore_n (pc := 1) hC dX11_isReached_1 (Nat.le_of_ble_eq_true rfl) ?_
  dsimp only [List.set]
  exact loop _ 0 (Nat.le_refl _) (by omega) (by omega) (fun j a1 a2 => by omega)

set_option maxHeartbeats 4000000 in
set_option maxRecDepth 100000 in
theorem c_countReached {G : ax_G} {T : Nat → Nat} {N : Nat → Int} {I : Nat → Int → Int} {R : Nat → Int → Option Nat} {z a o : Nat} {σ : Nat → Int → Int} {A w : Int → Nat} (h : RelA G T N I R z a o σ A w) (hI : miC σ o) : axE G YX11_countReachedCommits 2 [vR a] T N I R z (some (vI (((seg id 0 (σ o 2)).filter (fun y => decide (y ∈ path (σ (o + 2)) (σ (o + 7) 0) ∨ y ∈ path (σ (o + 2)) (σ (o + 7) 1) ∨ y ∈ path (σ (o + 2)) (σ (o + 7) 2) ∨ y ∈ path (σ (o + 2)) (σ (o + 7) 3)))).length : Int))) I := by
  refine ax_enter (by decide) (Nat.le_of_ble_eq_true rfl) (ax_cat rfl) (fun f hC => ?_)
  show axX G f 0 0 _ 0 [vR a, vU, vU, vU] [] T N I R z 0 0
  have hx := rl_fx h
  have hn := rl_n h
  have hC1 := hI.1
  have loop : ∀ (n : Nat) (x : Int) (c3 : ax_V), (σ o 2 - x).toNat ≤ n → 0 ≤ x → x ≤ σ o 2 → axX G f 0 0 (fun r1 T1 N1 I1 R1 z1 => r1 = some (vI (((seg id 0 (σ o 2)).filter (fun y => decide (y ∈ path (σ (o + 2)) (σ (o + 7) 0) ∨ y ∈ path (σ (o + 2)) (σ (o + 7) 1) ∨ y ∈ path (σ (o + 2)) (σ (o + 7) 2) ∨ y ∈ path (σ (o + 2)) (σ (o + 7) 3)))).length : Int)) ∧ T1 = T ∧ N1 = N ∧ I1 = I ∧ R1 = R ∧ z1 = z) 4 [vR a, vI (((seg id 0 x).filter (fun y => decide (y ∈ path (σ (o + 2)) (σ (o + 7) 0) ∨ y ∈ path (σ (o + 2)) (σ (o + 7) 1) ∨ y ∈ path (σ (o + 2)) (σ (o + 7) 2) ∨ y ∈ path (σ (o + 2)) (σ (o + 7) 3)))).length : Int), vI x, c3] [] T N I R z 0 0 := by
    intro n
    induction n with
    | zero =>
      intro x c3 hn h0 h1
      refine x_iload_n (pc := 4) hC dX11_countReachedCommits_4 rfl ?_
      refine x_aload_n (pc := 5) hC dX11_countReachedCommits_5 rfl ?_
      refine x_getI (pc := 6) hC gf_X11_105 dX11_countReachedCommits_6 (fx_ta hx) ?_
      rw [rl_n h]
      refine x_icmp_ge (pc := 9) hC 44 dX11_countReachedCommits_9 (by decide) (by omega) (by omega) (fun b9 => ?_) (fun b9 => ?_)
      · refine x_iload_n (pc := 44) hC dX11_countReachedCommits_44 rfl ?_
        refine x_iret (pc := 45) hC rfl dX11_countReachedCommits_45 ?_
        rw [show x = σ o 2 by omega]
        exact ⟨rfl, rfl, rfl, rfl, rfl, rfl⟩
      · omega
    | succ n ih =>
      intro x c3 hn h0 h1
      have hsn := seg_snoc (f := id) h0
      refine x_iload_n (pc := 4) hC dX11_countReachedCommits_4 rfl ?_
      refine x_aload_n (pc := 5) hC dX11_countReachedCommits_5 rfl ?_
      refine x_getI (pc := 6) hC gf_X11_105 dX11_countReachedCommits_6 (fx_ta hx) ?_
      rw [rl_n h]
      refine x_icmp_ge (pc := 9) hC 44 dX11_countReachedCommits_9 (by decide) (by omega) (by omega) (fun b9 => ?_) (fun b9 => ?_)
      · refine x_iload_n (pc := 44) hC dX11_countReachedCommits_44 rfl ?_
        refine x_iret (pc := 45) hC rfl dX11_countReachedCommits_45 ?_
        rw [show x = σ o 2 by omega]
        exact ⟨rfl, rfl, rfl, rfl, rfl, rfl⟩
      · have hxc : 0 ≤ x ∧ x < σ o 2 := by omega
        have k1 := ((rl_cs h).2 x hxc.1 hxc.2).1
        refine x_aload_n (pc := 12) hC dX11_countReachedCommits_12 rfl ?_
        refine x_iload_n (pc := 13) hC dX11_countReachedCommits_13 rfl ?_
        refine x_mV (pc := 14) hC cv_X11_123 dX11_countReachedCommits_14 (rl_at h hI hxc) (fx_ta hx) rfl (by decide) rfl rfl (Nat.le_of_ble_eq_true rfl) ?_
        dsimp only [Option.toList, List.cons_append, List.nil_append]
        refine x_astore_n (pc := 17) hC dX11_countReachedCommits_17 (Nat.le_of_ble_eq_true rfl) ?_
        dsimp only [List.set]
        refine x_iload_n (pc := 18) hC dX11_countReachedCommits_18 rfl ?_
        refine x_aload_n (pc := 19) hC dX11_countReachedCommits_19 rfl ?_
        refine x_ifnull (pc := 20) hC 35 dX11_countReachedCommits_20 (by decide) (fun h => by cases h) (fun _ _ => ?_)
        refine x_aload_n (pc := 23) hC dX11_countReachedCommits_23 rfl ?_
        refine x_aload_n (pc := 24) hC dX11_countReachedCommits_24 rfl ?_
        refine x_mV (pc := 25) hC cv_X11_364 dX11_countReachedCommits_25 (c_isReached h hI hxc) (fx_ta hx) rfl (by decide) rfl rfl (Nat.le_of_ble_eq_true rfl) ?_
        dsimp only [Option.toList, List.cons_append, List.nil_append]
        refine x_ifB_eq (pc := 28) hC 35 dX11_countReachedCommits_28 (by decide) (fun b28 => ?_) (fun b28 => ?_)
        · refine x_iconst (pc := 35) hC dX11_countReachedCommits_35 ?_
          refine x_iadd (pc := 36) hC dX11_countReachedCommits_36 ?_
          refine x_istore_n (pc := 37) hC dX11_countReachedCommits_37 (Nat.le_of_ble_eq_true rfl) ?_
          dsimp only [List.set]
          refine x_iinc (pc := 38) hC dX11_countReachedCommits_38 rfl ?_
          dsimp only [List.set]
          refine x_goto (pc := 41) hC 4 dX11_countReachedCommits_41 (by decide) ?_
          have := ih (x + 1) (vR (A x)) (by omega) (by omega) (by omega)
          rw [hsn, List.filter_append, List.length_append] at this
          first
          | (rw [List.filter_cons_of_pos (by simpa using b28)] at this; exact this)
          | (rw [List.filter_cons_of_neg (by simpa using b28)] at this; exact this)
        · refine x_iconst (pc := 31) hC dX11_countReachedCommits_31 ?_
          refine x_goto (pc := 32) hC 36 dX11_countReachedCommits_32 (by decide) ?_
          refine x_iadd (pc := 36) hC dX11_countReachedCommits_36 ?_
          refine x_istore_n (pc := 37) hC dX11_countReachedCommits_37 (Nat.le_of_ble_eq_true rfl) ?_
          dsimp only [List.set]
          refine x_iinc (pc := 38) hC dX11_countReachedCommits_38 rfl ?_
          dsimp only [List.set]
          refine x_goto (pc := 41) hC 4 dX11_countReachedCommits_41 (by decide) ?_
          have := ih (x + 1) (vR (A x)) (by omega) (by omega) (by omega)
          rw [hsn, List.filter_append, List.length_append] at this
          first
          | (rw [List.filter_cons_of_pos (by simpa using b28)] at this; exact this)
          | (rw [List.filter_cons_of_neg (by simpa using b28)] at this; exact this)
  refine x_iconst (pc := 0) hC dX11_countReachedCommits_0 ?_
  refine x_istore_n (pc := 1) hC dX11_countReachedCommits_1 (Nat.le_of_ble_eq_true rfl) ?_
  dsimp only [List.set]
  refine x_iconst (pc := 2) hC dX11_countReachedCommits_2 ?_
  refine x_istore_n (pc := 3) hC dX11_countReachedCommits_3 (Nat.le_of_ble_eq_true rfl) ?_
  dsimp only [List.set]
  exact loop _ 0 _ (Nat.le_refl _) (by omega) (by omega)

set_option maxHeartbeats 4000000 in
set_option maxRecDepth 100000 in
theorem c_countFilled {G : ax_G} {T : Nat → Nat} {N : Nat → Int} {I : Nat → Int → Int} {R : Nat → Int → Option Nat} {z a o : Nat} {σ : Nat → Int → Int} {A w : Int → Nat} (h : RelA G T N I R z a o σ A w) (hI : miC σ o) : axE G YX11_countFilledSlots 1 [vR a] T N I R z (some (vI (((seg id 0 5).filter (fun s => decide (σ (o + 31) s ≠ -9))).length : Int))) I := by
  refine ax_enter (by decide) (Nat.le_of_ble_eq_true rfl) (ax_cat rfl) (fun f hC => ?_)
  show axX G f 0 0 _ 0 [vR a, vU, vU] [] T N I R z 0 0
  have hx := rl_fx h
  have loop : ∀ (n : Nat) (x : Int), (5 - x).toNat ≤ n → 0 ≤ x → x ≤ 5 → axX G f 0 0 (fun r1 T1 N1 I1 R1 z1 => r1 = some (vI (((seg id 0 5).filter (fun s => decide (σ (o + 31) s ≠ -9))).length : Int)) ∧ T1 = T ∧ N1 = N ∧ I1 = I ∧ R1 = R ∧ z1 = z) 4 [vR a, vI (((seg id 0 x).filter (fun s => decide (σ (o + 31) s ≠ -9))).length : Int), vI x] [] T N I R z 0 0 := by
    intro n
    induction n with
    | zero =>
      intro x hn h0 h1
      refine x_iload_n (pc := 4) hC dX11_countFilledSlots_4 rfl ?_
      refine x_iconst (pc := 5) hC dX11_countFilledSlots_5 ?_
      refine x_icmp_ge (pc := 6) hC 35 dX11_countFilledSlots_6 (by decide) (by omega) (by omega) (fun b6 => ?_) (fun b6 => ?_)
      · refine x_iload_n (pc := 35) hC dX11_countFilledSlots_35 rfl ?_
        refine x_iret (pc := 36) hC rfl dX11_countFilledSlots_36 ?_
        rw [show x = 5 by omega]
        exact ⟨rfl, rfl, rfl, rfl, rfl, rfl⟩
      · omega
    | succ n ih =>
      intro x hn h0 h1
      have hsn := seg_snoc (f := id) h0
      have hem : x < 5 → ((R (a + 177 + x.toNat) 0 = none ∧ R (a + 177 + x.toNat) 2 = none) ↔ σ (o + 31) x = -9) := fun hx5 => by
        have k := rl_sl h x.toNat (by omega)
        unfold slK at k
        rw [show ((x.toNat : Nat) : Int) = x by omega] at k
        obtain ⟨k1, k2, k3, k4, k5⟩ := k
        refine ⟨fun h9 => ?_, k3⟩
        rcases k2 with e | e | e | e
        · exact e
        · obtain ⟨-, -, u, hu, -⟩ := k4 (Or.inl e); rw [h9.1] at hu; cases hu
        · obtain ⟨-, -, u, hu, -⟩ := k4 (Or.inr e); rw [h9.1] at hu; cases hu
        · obtain ⟨-, u, hu, -⟩ := k5 e; rw [h9.2] at hu; cases hu
      refine x_iload_n (pc := 4) hC dX11_countFilledSlots_4 rfl ?_
      refine x_iconst (pc := 5) hC dX11_countFilledSlots_5 ?_
      refine x_icmp_ge (pc := 6) hC 35 dX11_countFilledSlots_6 (by decide) (by omega) (by omega) (fun b6 => ?_) (fun b6 => ?_)
      · refine x_iload_n (pc := 35) hC dX11_countFilledSlots_35 rfl ?_
        refine x_iret (pc := 36) hC rfl dX11_countFilledSlots_36 ?_
        rw [show x = 5 by omega]
        exact ⟨rfl, rfl, rfl, rfl, rfl, rfl⟩
      · refine x_iload_n (pc := 9) hC dX11_countFilledSlots_9 rfl ?_
        refine x_aload_n (pc := 10) hC dX11_countFilledSlots_10 rfl ?_
        refine x_getO (pc := 11) hC gf_X11_29 dX11_countFilledSlots_11 (fx_ta hx) (fx_sl hx).1 ?_
        refine x_iload_n (pc := 14) hC dX11_countFilledSlots_14 rfl ?_
        refine x_aald (pc := 15) hC axEl_17 dX11_countFilledSlots_15 (fx_sl hx).2.1 (by omega) (by rw [(fx_sl hx).2.2]; omega) (fx_slot hx h0 (by omega)).1 ?_
        refine x_mV (pc := 16) hC cv_X11_328 dX11_countFilledSlots_16 (c_isEmpty (fx_slot hx h0 (by omega)).2) (fx_slot hx h0 (by omega)).2 rfl (by decide) rfl rfl (Nat.le_of_ble_eq_true rfl) ?_
        dsimp only [Option.toList, List.cons_append, List.nil_append]
        refine x_ifB_eq (pc := 19) hC 26 dX11_countFilledSlots_19 (by decide) (fun b19 => ?_) (fun b19 => ?_)
        · refine x_iconst (pc := 26) hC dX11_countFilledSlots_26 ?_
          refine x_iadd (pc := 27) hC dX11_countFilledSlots_27 ?_
          refine x_istore_n (pc := 28) hC dX11_countFilledSlots_28 (Nat.le_of_ble_eq_true rfl) ?_
          dsimp only [List.set]
          refine x_iinc (pc := 29) hC dX11_countFilledSlots_29 rfl ?_
          dsimp only [List.set]
          refine x_goto (pc := 32) hC 4 dX11_countFilledSlots_32 (by decide) ?_
          have hem2 := hem (by omega)
          have := ih (x + 1) (by omega) (by omega) (by omega)
          rw [hsn, List.filter_append, List.length_append] at this
          first
          | (rw [List.filter_cons_of_pos (by simpa [hem2] using b19)] at this; exact this)
          | (rw [List.filter_cons_of_neg (by simpa [hem2] using b19)] at this; exact this)
        · refine x_iconst (pc := 22) hC dX11_countFilledSlots_22 ?_
          refine x_goto (pc := 23) hC 27 dX11_countFilledSlots_23 (by decide) ?_
          refine x_iadd (pc := 27) hC dX11_countFilledSlots_27 ?_
          refine x_istore_n (pc := 28) hC dX11_countFilledSlots_28 (Nat.le_of_ble_eq_true rfl) ?_
          dsimp only [List.set]
          refine x_iinc (pc := 29) hC dX11_countFilledSlots_29 rfl ?_
          dsimp only [List.set]
          refine x_goto (pc := 32) hC 4 dX11_countFilledSlots_32 (by decide) ?_
          have hem2 := hem (by omega)
          have := ih (x + 1) (by omega) (by omega) (by omega)
          rw [hsn, List.filter_append, List.length_append] at this
          first
          | (rw [List.filter_cons_of_pos (by simpa [hem2] using b19)] at this; exact this)
          | (rw [List.filter_cons_of_neg (by simpa [hem2] using b19)] at this; exact this)
  refine x_iconst (pc := 0) hC dX11_countFilledSlots_0 ?_
  refine x_istore_n (pc := 1) hC dX11_countFilledSlots_1 (Nat.le_of_ble_eq_true rfl) ?_
  dsimp only [List.set]
  refine x_iconst (pc := 2) hC dX11_countFilledSlots_2 ?_
  refine x_istore_n (pc := 3) hC dX11_countFilledSlots_3 (Nat.le_of_ble_eq_true rfl) ?_
  dsimp only [List.set]
  exact loop _ 0 (Nat.le_refl _) (by omega) (by omega)

set_option maxHeartbeats 4000000 in
set_option maxRecDepth 100000 in
theorem c_many {G : ax_G} {T : Nat → Nat} {N : Nat → Int} {I : Nat → Int → Int} {R : Nat → Int → Option Nat} {z a o : Nat} {σ : Nat → Int → Int} {A w : Int → Nat} (h : RelA G T N I R z a o σ A w) (hI : miC σ o) (hR : miR σ o) {v : Int} (rv : ax_r v) : axR G YX11_many 3 [vR a, vI v] T N I R z (fun r1 I1 R1 => r1 = some (vI (mnR σ o v)) ∧ scK T N a I I1 R R1) := by
  refine ax_enter (by decide) (Nat.le_of_ble_eq_true rfl) (ax_cat rfl) (fun f hC => ?_)
  show axX G f 0 0 _ 0 [vR a, vI v] [] T N I R z 0 0
  have hx := rl_fx h
  have hl9 : ((rsL σ o).length : Int) = σ o 30 := by simp only [rsL, List.length_map, List.length_range]; have := hR.1; omega
  unfold mnR
  refine x_iload_n (pc := 0) hC dX11_many_0 rfl ?_
  by_cases t1_0 : v = 0
  · refine x_tswIn (pc := 1) hC 32 dX11_many_1 rv (by omega) (by omega) (by rw [t1_0]; rfl) (by decide) ?_
    refine x_aload_n (pc := 32) hC dX11_many_32 rfl ?_
    refine x_getI (pc := 33) hC gf_X11_105 dX11_many_33 (fx_ta hx) ?_
    refine x_iret (pc := 36) hC rfl dX11_many_36 ?_
    refine ⟨⟨?_, scK.rf⟩, rfl, rfl, rfl⟩
    rw [if_pos t1_0, rl_n h]
  · skip
    by_cases t1_1 : v = 1
    · refine x_tswIn (pc := 1) hC 37 dX11_many_1 rv (by omega) (by omega) (by rw [t1_1]; rfl) (by decide) ?_
      refine x_aload_n (pc := 37) hC dX11_many_37 rfl ?_
      refine x_getO (pc := 38) hC gf_X11_36 dX11_many_38 (fx_ta hx) (fx_mg hx).1 ?_
      refine x_getI (pc := 41) hC gf_X11_207 dX11_many_41 (fx_mg hx).2.1 ?_
      refine x_iret (pc := 44) hC rfl dX11_many_44 ?_
      refine ⟨⟨?_, scK.rf⟩, rfl, rfl, rfl⟩
      rw [if_neg t1_0, if_pos t1_1, (rl_rs h).1, hl9]
    · skip
      by_cases t1_2 : v = 2
      · refine x_tswIn (pc := 1) hC 45 dX11_many_1 rv (by omega) (by omega) (by rw [t1_2]; rfl) (by decide) ?_
        refine x_aload_n (pc := 45) hC dX11_many_45 rfl ?_
        refine x_mV (pc := 46) hC cv_X11_358 dX11_many_46 (c_countReached h hI) (fx_ta hx) rfl (by decide) rfl rfl (Nat.le_of_ble_eq_true rfl) ?_
        dsimp only [Option.toList, List.cons_append, List.nil_append]
        refine x_iret (pc := 49) hC rfl dX11_many_49 ?_
        refine ⟨⟨?_, scK.rf⟩, rfl, rfl, rfl⟩
        rw [if_neg t1_0, if_neg t1_1, if_pos t1_2]
      · skip
        by_cases t1_3 : v = 3
        · refine x_tswIn (pc := 1) hC 50 dX11_many_1 rv (by omega) (by omega) (by rw [t1_3]; rfl) (by decide) ?_
          refine x_aload_n (pc := 50) hC dX11_many_50 rfl ?_
          refine x_mV (pc := 51) hC cv_X11_361 dX11_many_51 (c_countFilled h hI) (fx_ta hx) rfl (by decide) rfl rfl (Nat.le_of_ble_eq_true rfl) ?_
          dsimp only [Option.toList, List.cons_append, List.nil_append]
          refine x_iret (pc := 54) hC rfl dX11_many_54 ?_
          refine ⟨⟨?_, scK.rf⟩, rfl, rfl, rfl⟩
          rw [if_neg t1_0, if_neg t1_1, if_neg t1_2, if_pos t1_3]
        · skip
          refine x_tswOut (pc := 1) hC 55 dX11_many_1 (by decide) rv (by omega) ?_
          refine x_bipush (pc := 55) hC dX11_many_55 (by decide) ?_
          refine x_iret (pc := 57) hC rfl dX11_many_57 ?_
          refine ⟨⟨?_, scK.rf⟩, rfl, rfl, rfl⟩
          rw [if_neg t1_0, if_neg t1_1, if_neg t1_2, if_neg t1_3]

