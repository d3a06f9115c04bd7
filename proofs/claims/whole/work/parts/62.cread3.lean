/-! THE CLASS: calls that only read, 3 -/
theorem rsN_of {I : Nat → Int → Int} {o : Nat} (h : miR I o) : rsN (rsL I o) ∧ ∀ p ∈ rsL I o, rwOk p.1 p.2 := by
  have key : ∀ p ∈ rsL I o, ∃ k : Nat, (k : Int) < I o 30 ∧ p = (rsK I o k, rsW I o k) := fun p hp => by
    simp only [rsL, List.mem_map, List.mem_range] at hp
    obtain ⟨k, hk, rfl⟩ := hp
    exact ⟨k, by omega, rfl⟩
  refine ⟨fun p hp => ?_, fun p hp => ?_⟩
  · obtain ⟨k, hk, rfl⟩ := key p hp
    have h1 := h.2.2.1 k
    have h2 := h.2.2.2.2.1 k
    refine ⟨by simp only [rsK, seg_len]; omega, fun v hv => ?_, by simp only [rsW, seg_len]; omega, fun v hv => ?_⟩
    · simp only [rsK] at hv
      obtain ⟨j, -, -, rfl⟩ := seg_mem.mp hv
      have := h.2.1 j
      omega
    · simp only [rsW] at hv
      obtain ⟨j, -, -, rfl⟩ := seg_mem.mp hv
      exact h.2.2.2.1 j
  · obtain ⟨k, hk, rfl⟩ := key p hp
    exact h.2.2.2.2.2 k (by omega) hk
/-- three rows are merged: on lists -/
theorem cl_mg {G : ax_G} {T : Nat → Nat} {N : Nat → Int} {I : Nat → Int → Int} {R : Nat → Int → Option Nat} {z a o : Nat} {σ : Nat → Int → Int} {A w : Int → Nat} (h : RelA G T N I R z a o σ A w) (hR : miR σ o) {r1 r2 r3 : Nat} {wd : Int} {B1 B2 B3 : List Int} (hw : ax_r wd) (h1 : rwS T N I r1) (h2 : rwS T N I r2) (h3 : rwS T N I r3) (e1 : seg (I r1) 0 (N r1) = B1) (e2 : seg (I r2) 0 (N r2) = B2) (e3 : seg (I r3) 0 (N r3) = B3) (o1 : r1 < a + 5 ∨ a + 98 ≤ r1) (o2 : r2 < a + 5 ∨ a + 98 ≤ r2) (o3 : r3 < a + 5 ∨ a + 98 ≤ r3) : axR G YX3_mergeRows 3 [vR (a + 5), vR r1, vR r2, vR r3, vI wd] T N I R z (fun q1 I1 R1 => q1 = none ∧ mgV I I1 R R1 (a + 5) r1 r2 r3 wd (mrgL (rsL σ o) B1 B2 B3) ∧ ((mrgL (rsL σ o) B1 B2 B3).1.length ≤ 150 ∧ isLn (mrgL (rsL σ o) B1 B2 B3).1) ∧ (mrgL (rsL σ o) B1 B2 B3).2.2.length ≤ 17 ∧ ∀ q ∈ (mrgL (rsL σ o) B1 B2 B3).2.2, gOk q) := by
  have := c_mergeRows (G := G) (z := z) (w := wd) (fx_mg (rl_fx h)).2 (rl_re h) (rsN_of hR).1 (rsN_of hR).2 hw h1 h2 h3 (by omega) (by omega) (by omega)
  rw [mrg_list _ _ _ _ h1.2.1.1 h2.2.1.1 h3.2.1.1, e1, e2, e3] at this
  exact this
theorem rl_wo {G : ax_G} {T : Nat → Nat} {N : Nat → Int} {I : Nat → Int → Int} {R : Nat → Int → Option Nat} {z a o : Nat} {σ : Nat → Int → Int} {A w : Int → Nat} (h : RelA G T N I R z a o σ A w) {c : Int} (h0 : 0 ≤ c) (h1 : c < σ o 2) : rwS T N I (w c) ∧ (w c < a + 5 ∨ a + 98 ≤ w c) ∧ R (A c) 4 = some (w c) ∧ pT (T (A c)) ∧ I (A c) 1 = c := by
  obtain ⟨-, -, -, -, -, -, -, c8⟩ := rl_cc h c h0 h1
  have b0 := fx_b0 (rl_fx h)
  have b1 := fx_b1 (rl_fx h)
  have hnl := (fx_nl (rl_fx h)).2
  obtain ⟨d1, d2, d3, d4, d5⟩ := (rl_cs h).2 c h0 h1
  exact ⟨d5, by omega, d4, d1, d2⟩

set_option maxHeartbeats 4000000 in
set_option maxRecDepth 100000 in
theorem c_ofCommit {G : ax_G} {T : Nat → Nat} {N : Nat → Int} {I : Nat → Int → Int} {R : Nat → Int → Option Nat} {z a o : Nat} {σ : Nat → Int → Int} {A w : Int → Nat} (h : RelA G T N I R z a o σ A w) (hI : miC σ o) (hz0 : σ (o + 6) 0 = 0) {c v : Int} (rc : ax_r c) (rv : ax_r v) : axR G YX11_ofCommit 4 [vR a, vI c, vI v] T N I R z (fun r1 I1 R1 => r1 = some (vI (ofR σ o c v)) ∧ scK T N a I I1 R R1) := by
  refine ax_enter (by decide) (Nat.le_of_ble_eq_true rfl) (ax_cat rfl) (fun f hC => ?_)
  show axX G f 0 0 _ 0 [vR a, vI c, vI v, vU] [] T N I R z 0 0
  have hx := rl_fx h
  by_cases hc : 0 ≤ c ∧ c < σ o 2
  · obtain ⟨c1, c2, c3, c4, c5⟩ := (rl_cs h).2 c hc.1 hc.2
    obtain ⟨g1, g2, -, ⟨g3, g4⟩, -, ⟨g5, g6⟩, -⟩ := rl_cc h c hc.1 hc.2
    have c52 := c5.2.1
    refine x_aload_n (pc := 0) hC dX11_ofCommit_0 rfl ?_
    refine x_iload_n (pc := 1) hC dX11_ofCommit_1 rfl ?_
    refine x_mV (pc := 2) hC cv_X11_123 dX11_ofCommit_2 (rl_at h hI hc) (fx_ta hx) rfl (by decide) rfl rfl (Nat.le_of_ble_eq_true rfl) ?_
    dsimp only [Option.toList, List.cons_append, List.nil_append]
    refine x_astore_n (pc := 5) hC dX11_ofCommit_5 (Nat.le_of_ble_eq_true rfl) ?_
    dsimp only [List.set]
    refine x_aload_n (pc := 6) hC dX11_ofCommit_6 rfl ?_
    refine x_ifnonnull (pc := 7) hC 12 dX11_ofCommit_7 (by decide) (fun _ _ => ?_) (fun h => by cases h)
    refine x_iload_n (pc := 12) hC dX11_ofCommit_12 rfl ?_
    by_cases t13_0 : v = 0
    · refine x_tswIn (pc := 13) hC 52 dX11_ofCommit_13 rv (by omega) (by omega) (by rw [t13_0]; rfl) (by decide) ?_
      refine x_aload_n (pc := 52) hC dX11_ofCommit_52 rfl ?_
      refine x_kind (pc := 53) hC c1 dX11_ofCommit_53 (by decide) rfl (Nat.le_of_ble_eq_true rfl) ?_
      refine x_iret (pc := 56) hC rfl dX11_ofCommit_56 ?_
      refine ⟨⟨?_, scK.rf⟩, rfl, rfl, rfl⟩
      unfold ofR
      rw [if_pos hc, if_neg (by omega), if_pos t13_0, g2]
    · skip
      by_cases t13_1 : v = 1
      · refine x_tswIn (pc := 13) hC 57 dX11_ofCommit_13 rv (by omega) (by omega) (by rw [t13_1]; rfl) (by decide) ?_
        refine x_aload_n (pc := 57) hC dX11_ofCommit_57 rfl ?_
        refine x_getO (pc := 58) hC (gp_X11_129 c1) dX11_ofCommit_58 rfl c3 ?_
        refine x_ifnonnull (pc := 61) hC 69 dX11_ofCommit_61 (by decide) (fun q61 b61 => ?_) (fun b61 => ?_)
        · have hc0 : ¬ c = 0 := fun h9 => by rw [if_pos h9] at b61; cases b61
          have c3p : R (A c) 2 = some (A (σ (o + 2) c)) := by rw [c3, if_neg hc0]
          have hpp := hI.2.2.1.2 c (by omega) hc.2
          obtain ⟨kp, kp2, -⟩ := (rl_cs h).2 _ hpp.1 (by omega : σ (o + 2) c < σ o 2)
          refine x_aload_n (pc := 69) hC dX11_ofCommit_69 rfl ?_
          refine x_getO (pc := 70) hC (gp_X11_129 c1) dX11_ofCommit_70 rfl c3p ?_
          refine x_getI (pc := 73) hC (gp_X11_120 kp) dX11_ofCommit_73 rfl ?_
          refine x_iret (pc := 76) hC rfl dX11_ofCommit_76 ?_
          refine ⟨⟨?_, scK.rf⟩, rfl, rfl, rfl⟩
          unfold ofR
          rw [if_pos hc, if_neg (by omega), if_neg t13_0, if_pos t13_1, kp2]
        · refine x_bipush (pc := 64) hC dX11_ofCommit_64 (by decide) ?_
          refine x_goto (pc := 66) hC 76 dX11_ofCommit_66 (by decide) ?_
          refine x_iret (pc := 76) hC rfl dX11_ofCommit_76 ?_
          have hc0 : c = 0 := Decidable.byContradiction (fun h9 => by rw [if_neg h9] at b61; cases b61)
          refine ⟨⟨?_, scK.rf⟩, rfl, rfl, rfl⟩
          unfold ofR
          rw [if_pos hc, if_neg (by omega), if_neg t13_0, if_pos t13_1, hc0, hI.2.2.2.1]
      · skip
        by_cases t13_2 : v = 2
        · refine x_tswIn (pc := 13) hC 77 dX11_ofCommit_13 rv (by omega) (by omega) (by rw [t13_2]; rfl) (by decide) ?_
          refine x_aload_n (pc := 77) hC dX11_ofCommit_77 rfl ?_
          refine x_getO (pc := 78) hC (gp_X11_133 c1) dX11_ofCommit_78 rfl c4 ?_
          refine x_alen (pc := 81) hC dX11_ofCommit_81 (by rw [c5.1]; decide) (by rw [c5.1]; decide) ?_
          refine x_iret (pc := 82) hC rfl dX11_ofCommit_82 ?_
          refine ⟨⟨?_, scK.rf⟩, rfl, rfl, rfl⟩
          unfold ofR
          rw [if_pos hc, if_neg (by omega), if_neg t13_0, if_neg t13_1, if_pos t13_2, g5]
        · skip
          by_cases t13_3 : v = 3
          · refine x_tswIn (pc := 13) hC 83 dX11_ofCommit_13 rv (by omega) (by omega) (by rw [t13_3]; rfl) (by decide) ?_
            refine x_aload_n (pc := 83) hC dX11_ofCommit_83 rfl ?_
            refine x_getO (pc := 84) hC gf_X11_43 dX11_ofCommit_84 (fx_ta hx) (fx_ch hx).1 ?_
            refine x_aload_n (pc := 87) hC dX11_ofCommit_87 rfl ?_
            refine x_rV (pc := 88) hC cv_X11_136 dX11_ofCommit_88 (c_readChange (rl_cs h) (fx_ch hx).2 hc (rl_ap h (Or.inl rfl))) (fx_ch hx).2.1 rfl (by decide) rfl rfl (Nat.le_of_ble_eq_true rfl) ?_
            rintro v9 J1 S1 ⟨rfl, m1, m2, m2w⟩
            dsimp only [Option.toList, List.nil_append]
            have s1 : scK T N a I J1 R S1 := sc_rd (Or.inl rfl) m1
            have h1 := rl_sc h s1
            have hx1 := rl_fx h1
            rw [rl_chg h hI hz0 hc.1 hc.2] at m2
            refine x_aload_n (pc := 91) hC dX11_ofCommit_91 rfl ?_
            refine x_getO (pc := 92) hC gf_X11_43 dX11_ofCommit_92 (fx_ta hx) (fx_ch hx1).1 ?_
            refine x_getI (pc := 95) hC gf_X11_140 dX11_ofCommit_95 (fx_ch hx1).2.1 ?_
            refine x_iret (pc := 98) hC rfl dX11_ofCommit_98 ?_
            refine ⟨⟨?_, s1⟩, rfl, rfl, rfl⟩
            unfold ofR
            rw [if_pos hc, if_neg (by omega), if_neg t13_0, if_neg t13_1, if_neg t13_2, if_pos t13_3, m2.1]
          · skip
            by_cases t13_4 : v = 4
            · refine x_tswIn (pc := 13) hC 99 dX11_ofCommit_13 rv (by omega) (by omega) (by rw [t13_4]; rfl) (by decide) ?_
              refine x_aload_n (pc := 99) hC dX11_ofCommit_99 rfl ?_
              refine x_mU (pc := 100) hC (cq_X11_143 c1) dX11_ofCommit_100 (c_pathLength (rl_cs h) hc) rfl rfl (by decide) rfl rfl (Nat.le_of_ble_eq_true rfl) ?_
              dsimp only [Option.toList, List.cons_append, List.nil_append]
              refine x_iret (pc := 103) hC rfl dX11_ofCommit_103 ?_
              refine ⟨⟨?_, scK.rf⟩, rfl, rfl, rfl⟩
              unfold ofR
              rw [if_pos hc, if_neg (by omega), if_neg t13_0, if_neg t13_1, if_neg t13_2, if_neg t13_3, if_pos t13_4]
            · skip
              by_cases t13_5 : v = 5
              · refine x_tswIn (pc := 13) hC 104 dX11_ofCommit_13 rv (by omega) (by omega) (by rw [t13_5]; rfl) (by decide) ?_
                refine x_aload_n (pc := 104) hC dX11_ofCommit_104 rfl ?_
                refine x_getO (pc := 105) hC (gp_X11_146 c1) dX11_ofCommit_105 rfl g3 ?_
                refine x_ifnonnull (pc := 108) hC 116 dX11_ofCommit_108 (by decide) (fun q108 b108 => ?_) (fun b108 => ?_)
                · have hq0 : ¬ σ (o + 3) c = -9 := fun h9 => by rw [if_pos h9] at b108; cases b108
                  have g3p : R (A c) 3 = some (A (σ (o + 3) c)) := by rw [g3, if_neg hq0]
                  obtain ⟨kq, kq2, -⟩ := (rl_cs h).2 (σ (o + 3) c) (by omega) (by omega)
                  refine x_aload_n (pc := 116) hC dX11_ofCommit_116 rfl ?_
                  refine x_getO (pc := 117) hC (gp_X11_146 c1) dX11_ofCommit_117 rfl g3p ?_
                  refine x_getI (pc := 120) hC (gp_X11_120 kq) dX11_ofCommit_120 rfl ?_
                  refine x_iret (pc := 123) hC rfl dX11_ofCommit_123 ?_
                  refine ⟨⟨?_, scK.rf⟩, rfl, rfl, rfl⟩
                  unfold ofR
                  rw [if_pos hc, if_neg (by omega), if_neg t13_0, if_neg t13_1, if_neg t13_2, if_neg t13_3, if_neg t13_4, if_pos t13_5, kq2]
                · refine x_bipush (pc := 111) hC dX11_ofCommit_111 (by decide) ?_
                  refine x_goto (pc := 113) hC 123 dX11_ofCommit_113 (by decide) ?_
                  refine x_iret (pc := 123) hC rfl dX11_ofCommit_123 ?_
                  have hq0 : σ (o + 3) c = -9 := Decidable.byContradiction (fun h9 => by rw [if_neg h9] at b108; cases b108)
                  refine ⟨⟨?_, scK.rf⟩, rfl, rfl, rfl⟩
                  unfold ofR
                  rw [if_pos hc, if_neg (by omega), if_neg t13_0, if_neg t13_1, if_neg t13_2, if_neg t13_3, if_neg t13_4, if_pos t13_5, hq0]
              · skip
                refine x_tswOut (pc := 13) hC 124 dX11_ofCommit_13 (by decide) rv (by omega) ?_
                refine x_iload_n (pc := 124) hC dX11_ofCommit_124 rfl ?_
                refine x_bipush (pc := 125) hC dX11_ofCommit_125 (by decide) ?_
                refine x_isubW (pc := 127) hC dX11_ofCommit_127 rv (by decide) (fun v1 r1 e9 => ?_)
                refine x_mS (pc := 128) hC cs_X11_149 dX11_ofCommit_128 (c_isLineIndex r1) rfl (by decide) rfl rfl (Nat.le_of_ble_eq_true rfl) ?_
                dsimp only [Option.toList, List.cons_append, List.nil_append]
                refine x_ifB_eq (pc := 131) hC 148 dX11_ofCommit_131 (by decide) (fun b131 => ?_) (fun b131 => ?_)
                · refine x_bipush (pc := 148) hC dX11_ofCommit_148 (by decide) ?_
                  refine x_iret (pc := 150) hC rfl dX11_ofCommit_150 ?_
                  refine ⟨⟨?_, scK.rf⟩, rfl, rfl, rfl⟩
                  unfold ofR
                  rw [if_pos hc, if_neg (by omega), if_neg t13_0, if_neg t13_1, if_neg t13_2, if_neg t13_3, if_neg t13_4, if_neg t13_5]
                · refine x_aload_n (pc := 134) hC dX11_ofCommit_134 rfl ?_
                  refine x_getO (pc := 135) hC (gp_X11_133 c1) dX11_ofCommit_135 rfl c4 ?_
                  refine x_iload_n (pc := 138) hC dX11_ofCommit_138 rfl ?_
                  refine x_bipush (pc := 139) hC dX11_ofCommit_139 (by decide) ?_
                  refine x_isubW (pc := 141) hC dX11_ofCommit_141 rv (by decide) (fun v2 r2 e8 => ?_)
                  refine x_mS (pc := 142) hC cs_X11_152 dX11_ofCommit_142 (c_elementOr c5.1 (by omega) r2) rfl (by decide) rfl rfl (Nat.le_of_ble_eq_true rfl) ?_
                  dsimp only [Option.toList, List.cons_append, List.nil_append]
                  refine x_goto (pc := 145) hC 150 dX11_ofCommit_145 (by decide) ?_
                  refine x_iret (pc := 150) hC rfl dX11_ofCommit_150 ?_
                  refine ⟨⟨?_, scK.rf⟩, rfl, rfl, rfl⟩
                  unfold ofR
                  have ev : v2 = v - 10 := by omega
                  rw [if_pos hc, if_pos (show 10 ≤ v ∧ v ≤ 25 by omega), ev, g5]
                  by_cases h9 : v - 10 < σ (o + 6) c
                  · rw [if_pos h9, if_pos (show 0 ≤ v - 10 ∧ v - 10 < σ (o + 6) c by omega), rl_line (j := v - 10) h hc.1 hc.2 (by omega) h9, show 16 * c + (v - 10) = 16 * c + v - 10 by omega]
                  · rw [if_neg h9, if_neg (show ¬ (0 ≤ v - 10 ∧ v - 10 < σ (o + 6) c) by omega)]
  · refine x_aload_n (pc := 0) hC dX11_ofCommit_0 rfl ?_
    refine x_iload_n (pc := 1) hC dX11_ofCommit_1 rfl ?_
    refine x_mV (pc := 2) hC cv_X11_123 dX11_ofCommit_2 (rl_no h hI rc hc) (fx_ta hx) rfl (by decide) rfl rfl (Nat.le_of_ble_eq_true rfl) ?_
    dsimp only [Option.toList, List.cons_append, List.nil_append]
    refine x_astore_n (pc := 5) hC dX11_ofCommit_5 (Nat.le_of_ble_eq_true rfl) ?_
    dsimp only [List.set]
    refine x_aload_n (pc := 6) hC dX11_ofCommit_6 rfl ?_
    refine x_ifnonnull (pc := 7) hC 12 dX11_ofCommit_7 (by decide) (fun _ h => by cases h) (fun _ => ?_)
    refine x_iconst (pc := 10) hC dX11_ofCommit_10 ?_
    refine x_iret (pc := 11) hC rfl dX11_ofCommit_11 ?_
    refine ⟨⟨?_, scK.rf⟩, rfl, rfl, rfl⟩
    unfold ofR
    rw [if_neg hc]

set_option maxHeartbeats 4000000 in
set_option maxRecDepth 100000 in
theorem c_fork {G : ax_G} {T : Nat → Nat} {N : Nat → Int} {I : Nat → Int → Int} {R : Nat → Int → Option Nat} {z a o : Nat} {σ : Nat → Int → Int} {A w : Int → Nat} (h : RelA G T N I R z a o σ A w) (hI : miC σ o) {c d : Int} (rc : ax_r c) (rd : ax_r d) : axR G YX11_fork 2 [vR a, vI c, vI d] T N I R z (fun r1 I1 R1 => r1 = some (vI (fkR σ o c d)) ∧ scK T N a I I1 R R1) := by
  refine ax_enter (by decide) (Nat.le_of_ble_eq_true rfl) (ax_cat rfl) (fun f hC => ?_)
  show axX G f 0 0 _ 0 [vR a, vI c, vI d, vU, vU, vU] [] T N I R z 0 0
  have hx := rl_fx h
  unfold fkR
  have hn := rl_n h
  have hC1 := hI.1
  have c2at := c_commitAt (G := G) (I := I) hx (c := d) rd (by omega)
  by_cases hc : 0 ≤ c ∧ c < σ o 2
  · by_cases hd : 0 ≤ d ∧ d < σ o 2
    · rw [if_pos ⟨hc, hd⟩]
      have k1 := ((rl_cs h).2 c hc.1 hc.2).1
      have k2 := ((rl_cs h).2 d hd.1 hd.2).1
      have loop : ∀ (n : Nat) (y : Int), y.toNat ≤ n → 0 ≤ y → y < σ o 2 → (path (σ (o + 2)) c).find? (fun x => decide (x ∈ path (σ (o + 2)) d)) = (path (σ (o + 2)) y).find? (fun x => decide (x ∈ path (σ (o + 2)) d)) → axX G f 0 0 (fun r1 T1 N1 I1 R1 z1 => (r1 = some (vI (((path (σ (o + 2)) c).find? (fun x => decide (x ∈ path (σ (o + 2)) d))).getD 0)) ∧ scK T N a I I1 R R1) ∧ T1 = T ∧ N1 = N ∧ z1 = z) 27 [vR a, vI c, vI d, vR (A c), vR (A d), vR (A y)] [] T N I R z 0 0 := by
        intro n
        have go0 : ∀ (y : Int), y = 0 → 0 ≤ y → y < σ o 2 → (path (σ (o + 2)) c).find? (fun x => decide (x ∈ path (σ (o + 2)) d)) = (path (σ (o + 2)) y).find? (fun x => decide (x ∈ path (σ (o + 2)) d)) → axX G f 0 0 (fun r1 T1 N1 I1 R1 z1 => (r1 = some (vI (((path (σ (o + 2)) c).find? (fun x => decide (x ∈ path (σ (o + 2)) d))).getD 0)) ∧ scK T N a I I1 R R1) ∧ T1 = T ∧ N1 = N ∧ z1 = z) 27 [vR a, vI c, vI d, vR (A c), vR (A d), vR (A y)] [] T N I R z 0 0 := by
          intro y hy0 h0 hy he
          obtain ⟨h1, h2, h3, h4, h5⟩ := (rl_cs h).2 y h0 hy
          rw [if_pos hy0] at h3
          have hpy : path (σ (o + 2)) y = [y] := by rw [hy0]; exact path_0 (rl_cs h).1
          refine x_aload (pc := 27) hC dX11_fork_27 rfl ?_
          refine x_ifnull (pc := 29) hC 58 dX11_fork_29 (by decide) (fun h => by cases h) (fun _ _ => ?_)
          refine x_aload (pc := 32) hC dX11_fork_32 rfl ?_
          refine x_aload (pc := 34) hC dX11_fork_34 rfl ?_
          refine x_mU (pc := 36) hC (cq_X11_179 h1) dX11_fork_36 (c_isOnPathOf (rl_cs h) ⟨h0, hy⟩ hd) rfl rfl (by decide) rfl rfl (Nat.le_of_ble_eq_true rfl) ?_
          dsimp only [Option.toList, List.cons_append, List.nil_append]
          refine x_ifB_eq (pc := 39) hC 48 dX11_fork_39 (by decide) (fun b39 => ?_) (fun b39 => ?_)
          · refine x_aload (pc := 48) hC dX11_fork_48 rfl ?_
            refine x_getO (pc := 50) hC (gp_X11_129 h1) dX11_fork_50 rfl h3 ?_
            refine x_astore (pc := 53) hC dX11_fork_53 (Nat.le_of_ble_eq_true rfl) ?_
            dsimp only [List.set]
            refine x_goto (pc := 55) hC 27 dX11_fork_55 (by decide) ?_
            refine x_aload (pc := 27) hC dX11_fork_27 rfl ?_
            refine x_ifnull (pc := 29) hC 58 dX11_fork_29 (by decide) (fun _ => ?_) (fun _ h => by cases h)
            refine x_iconst (pc := 58) hC dX11_fork_58 ?_
            refine x_iret (pc := 59) hC rfl dX11_fork_59 ?_
            refine ⟨⟨?_, scK.rf⟩, rfl, rfl, rfl⟩
            rw [he, hpy, List.find?_cons_of_neg (by simpa using b39)]
            rfl
          · refine x_aload (pc := 42) hC dX11_fork_42 rfl ?_
            refine x_getI (pc := 44) hC (gp_X11_120 h1) dX11_fork_44 rfl ?_
            refine x_iret (pc := 47) hC rfl dX11_fork_47 ?_
            refine ⟨⟨?_, scK.rf⟩, rfl, rfl, rfl⟩
            rw [he, hpy, List.find?_cons_of_pos (by simpa using b39), h2]
            rfl
        induction n with
        | zero => intro y hn h0 hy he; exact go0 y (by omega) h0 hy he
        | succ n ih =>
          intro y hn h0 hy he
          by_cases hy0 : y = 0
          · exact go0 y hy0 h0 hy he
          · obtain ⟨h1, h2, h3, h4, h5⟩ := (rl_cs h).2 y h0 hy
            rw [if_neg hy0] at h3
            have hp := (rl_cs h).1.2 y (by omega) hy
            obtain ⟨g1, -⟩ := (rl_cs h).2 (σ (o + 2) y) hp.1 (by omega)
            have hpc := path_cons (rl_cs h).1 (show 0 < y by omega) hy
            refine x_aload (pc := 27) hC dX11_fork_27 rfl ?_
            refine x_ifnull (pc := 29) hC 58 dX11_fork_29 (by decide) (fun h => by cases h) (fun _ _ => ?_)
            refine x_aload (pc := 32) hC dX11_fork_32 rfl ?_
            refine x_aload (pc := 34) hC dX11_fork_34 rfl ?_
            refine x_mU (pc := 36) hC (cq_X11_179 h1) dX11_fork_36 (c_isOnPathOf (rl_cs h) ⟨h0, hy⟩ hd) rfl rfl (by decide) rfl rfl (Nat.le_of_ble_eq_true rfl) ?_
            dsimp only [Option.toList, List.cons_append, List.nil_append]
            refine x_ifB_eq (pc := 39) hC 48 dX11_fork_39 (by decide) (fun b39 => ?_) (fun b39 => ?_)
            · refine x_aload (pc := 48) hC dX11_fork_48 rfl ?_
              refine x_getO (pc := 50) hC (gp_X11_129 h1) dX11_fork_50 rfl h3 ?_
              refine x_astore (pc := 53) hC dX11_fork_53 (Nat.le_of_ble_eq_true rfl) ?_
              dsimp only [List.set]
              refine x_goto (pc := 55) hC 27 dX11_fork_55 (by decide) ?_
              refine ih _ (by omega) hp.1 (by omega) ?_
              rw [he, hpc, List.find?_cons_of_neg (by simpa using b39)]
            · refine x_aload (pc := 42) hC dX11_fork_42 rfl ?_
              refine x_getI (pc := 44) hC (gp_X11_120 h1) dX11_fork_44 rfl ?_
              refine x_iret (pc := 47) hC rfl dX11_fork_47 ?_
              refine ⟨⟨?_, scK.rf⟩, rfl, rfl, rfl⟩
              rw [he, hpc, List.find?_cons_of_pos (by simpa using b39), h2]
              rfl
      refine x_aload_n (pc := 0) hC dX11_fork_0 rfl ?_
      refine x_iload_n (pc := 1) hC dX11_fork_1 rfl ?_
      refine x_mV (pc := 2) hC cv_X11_123 dX11_fork_2 (rl_at h hI hc) (fx_ta hx) rfl (by decide) rfl rfl (Nat.le_of_ble_eq_true rfl) ?_
      dsimp only [Option.toList, List.cons_append, List.nil_append]
      refine x_astore_n (pc := 5) hC dX11_fork_5 (Nat.le_of_ble_eq_true rfl) ?_
      dsimp only [List.set]
      refine x_aload_n (pc := 6) hC dX11_fork_6 rfl ?_
      refine x_iload_n (pc := 7) hC dX11_fork_7 rfl ?_
      refine x_mV (pc := 8) hC cv_X11_123 dX11_fork_8 (rl_at h hI hd) (fx_ta hx) rfl (by decide) rfl rfl (Nat.le_of_ble_eq_true rfl) ?_
      dsimp only [Option.toList, List.cons_append, List.nil_append]
      refine x_astore (pc := 11) hC dX11_fork_11 (Nat.le_of_ble_eq_true rfl) ?_
      dsimp only [List.set]
      refine x_aload_n (pc := 13) hC dX11_fork_13 rfl ?_
      refine x_ifnull (pc := 14) hC 22 dX11_fork_14 (by decide) (fun h => by cases h) (fun _ _ => ?_)
      refine x_aload (pc := 17) hC dX11_fork_17 rfl ?_
      refine x_ifnonnull (pc := 19) hC 24 dX11_fork_19 (by decide) (fun _ _ => ?_) (fun h => by cases h)
      refine x_aload_n (pc := 24) hC dX11_fork_24 rfl ?_
      refine x_astore (pc := 25) hC dX11_fork_25 (Nat.le_of_ble_eq_true rfl) ?_
      dsimp only [List.set]
      exact loop _ c (Nat.le_refl _) hc.1 hc.2 rfl
    · rw [if_neg (fun h9 => hd h9.2)]
      have k1 := ((rl_cs h).2 c hc.1 hc.2).1
      refine x_aload_n (pc := 0) hC dX11_fork_0 rfl ?_
      refine x_iload_n (pc := 1) hC dX11_fork_1 rfl ?_
      refine x_mV (pc := 2) hC cv_X11_123 dX11_fork_2 (rl_at h hI hc) (fx_ta hx) rfl (by decide) rfl rfl (Nat.le_of_ble_eq_true rfl) ?_
      dsimp only [Option.toList, List.cons_append, List.nil_append]
      refine x_astore_n (pc := 5) hC dX11_fork_5 (Nat.le_of_ble_eq_true rfl) ?_
      dsimp only [List.set]
      refine x_aload_n (pc := 6) hC dX11_fork_6 rfl ?_
      refine x_iload_n (pc := 7) hC dX11_fork_7 rfl ?_
      refine x_mV (pc := 8) hC cv_X11_123 dX11_fork_8 (rl_no h hI rd hd) (fx_ta hx) rfl (by decide) rfl rfl (Nat.le_of_ble_eq_true rfl) ?_
      dsimp only [Option.toList, List.cons_append, List.nil_append]
      refine x_astore (pc := 11) hC dX11_fork_11 (Nat.le_of_ble_eq_true rfl) ?_
      dsimp only [List.set]
      refine x_aload_n (pc := 13) hC dX11_fork_13 rfl ?_
      refine x_ifnull (pc := 14) hC 22 dX11_fork_14 (by decide) (fun h => by cases h) (fun _ _ => ?_)
      refine x_aload (pc := 17) hC dX11_fork_17 rfl ?_
      refine x_ifnonnull (pc := 19) hC 24 dX11_fork_19 (by decide) (fun _ h => by cases h) (fun _ => ?_)
      refine x_iconst (pc := 22) hC dX11_fork_22 ?_
      refine x_iret (pc := 23) hC rfl dX11_fork_23 ?_
      exact ⟨⟨rfl, scK.rf⟩, rfl, rfl, rfl⟩
  · rw [if_neg (fun h9 => hc h9.1)]
    refine x_aload_n (pc := 0) hC dX11_fork_0 rfl ?_
    refine x_iload_n (pc := 1) hC dX11_fork_1 rfl ?_
    refine x_mV (pc := 2) hC cv_X11_123 dX11_fork_2 (rl_no h hI rc hc) (fx_ta hx) rfl (by decide) rfl rfl (Nat.le_of_ble_eq_true rfl) ?_
    dsimp only [Option.toList, List.cons_append, List.nil_append]
    refine x_astore_n (pc := 5) hC dX11_fork_5 (Nat.le_of_ble_eq_true rfl) ?_
    dsimp only [List.set]
    refine x_aload_n (pc := 6) hC dX11_fork_6 rfl ?_
    refine x_iload_n (pc := 7) hC dX11_fork_7 rfl ?_
    refine x_mV (pc := 8) hC cv_X11_123 dX11_fork_8 c2at (fx_ta hx) rfl (by decide) rfl rfl (Nat.le_of_ble_eq_true rfl) ?_
    dsimp only [Option.toList, List.cons_append, List.nil_append]
    refine x_astore (pc := 11) hC dX11_fork_11 (Nat.le_of_ble_eq_true rfl) ?_
    dsimp only [List.set]
    refine x_aload_n (pc := 13) hC dX11_fork_13 rfl ?_
    refine x_ifnull (pc := 14) hC 22 dX11_fork_14 (by decide) (fun _ => ?_) (fun _ h => by cases h)
    refine x_iconst (pc := 22) hC dX11_fork_22 ?_
    refine x_iret (pc := 23) hC rfl dX11_fork_23 ?_
    exact ⟨⟨rfl, scK.rf⟩, rfl, rfl, rfl⟩

set_option maxHeartbeats 4000000 in
set_option maxRecDepth 100000 in
theorem c_resolution {G : ax_G} {T : Nat → Nat} {N : Nat → Int} {I : Nat → Int → Int} {R : Nat → Int → Option Nat} {z a o : Nat} {σ : Nat → Int → Int} {A w : Int → Nat} (h : RelA G T N I R z a o σ A w) (hI : miC σ o) (hR : miR σ o) {k v : Int} (rk : ax_r k) (rv : ax_r v) : axR G YX11_resolution 1 [vR a, vI k, vI v] T N I R z (fun r1 I1 R1 => r1 = some (vI (reR σ o k v)) ∧ scK T N a I I1 R R1) := by
  refine ax_enter (by decide) (Nat.le_of_ble_eq_true rfl) (ax_cat rfl) (fun f hC => ?_)
  show axX G f 0 0 _ 0 [vR a, vI k, vI v, vU] [] T N I R z 0 0
  have hx := rl_fx h
  have hrs := rl_rs h
  have hl9 : ((rsL σ o).length : Int) = σ o 30 := by simp only [rsL, List.length_map, List.length_range]; have := hR.1; omega
  have hrA := c_resolutionAt (G := G) (T := T) (N := N) (I := I) (R := R) (z := z) (k := k) (fx_mg hx).2 (by omega) rk
  unfold reR
  by_cases hk : 0 ≤ k ∧ k < σ o 30
  · rw [if_pos hk]
    have hp : (rsL σ o)[k.toNat]? = some (rsK σ o k, rsW σ o k) := by
      simp only [rsL, List.getElem?_map, List.getElem?_range (show k.toNat < (σ o 30).toNat by omega), Option.map_some]
      rw [show ((k.toNat : Nat) : Int) = k by omega]
    obtain ⟨q, q1, ⟨t1, -⟩, u, u2, ⟨f1, f2⟩, -, ⟨u3, u4, u5⟩, ⟨v3, v4, v5⟩, -⟩ := hrs.2.2 _ _ hp
    rw [show ((k.toNat : Nat) : Int) = k by omega] at q1
    rw [if_pos (by omega), q1] at hrA
    have s1 := (hR.2.2.1 k)
    have s2 := (hR.2.2.2.2.1 k)
    have g1 : ((rsK σ o k).length : Int) = σ (o + 21) k := by simp only [rsK, seg_len]; omega
    have g2 : ((rsW σ o k).length : Int) = σ (o + 23) k := by simp only [rsW, seg_len]; omega
    have a1 : ∀ i : Int, 0 ≤ i → (if 0 ≤ i ∧ i < N u then I u i else -9) = atO (rsK σ o k) i := fun i hi => by
      have := atO_seg (f := I u) (i := 0) (j := (rsK σ o k).length) (k := i) (by omega) hi
      rw [u5] at this
      rw [this, Int.zero_add, Int.sub_zero, u4]
      by_cases h9 : i < (rsK σ o k).length
      · rw [if_pos h9, if_pos ⟨hi, h9⟩]
      · rw [if_neg h9, if_neg (fun h8 => h9 h8.2)]
    have a2 : ∀ i : Int, 0 ≤ i → (if 0 ≤ i ∧ i < N u2 then I u2 i else -9) = atO (rsW σ o k) i := fun i hi => by
      have := atO_seg (f := I u2) (i := 0) (j := (rsW σ o k).length) (k := i) (by omega) hi
      rw [v5] at this
      rw [this, Int.zero_add, Int.sub_zero, v4]
      by_cases h9 : i < (rsW σ o k).length
      · rw [if_pos h9, if_pos ⟨hi, h9⟩]
      · rw [if_neg h9, if_neg (fun h8 => h9 h8.2)]
    have u4' : N u = ((rsK σ o k).length : Int) := u4
    have v4' : N u2 = ((rsW σ o k).length : Int) := v4
    refine x_aload_n (pc := 0) hC dX11_resolution_0 rfl ?_
    refine x_getO (pc := 1) hC gf_X11_36 dX11_resolution_1 (fx_ta hx) (fx_mg hx).1 ?_
    refine x_iload_n (pc := 4) hC dX11_resolution_4 rfl ?_
    refine x_mV (pc := 5) hC cv_X11_225 dX11_resolution_5 hrA (fx_mg hx).2.1 rfl (by decide) rfl rfl (Nat.le_of_ble_eq_true rfl) ?_
    dsimp only [Option.toList, List.cons_append, List.nil_append]
    refine x_astore_n (pc := 8) hC dX11_resolution_8 (Nat.le_of_ble_eq_true rfl) ?_
    dsimp only [List.set]
    refine x_aload_n (pc := 9) hC dX11_resolution_9 rfl ?_
    refine x_ifnonnull (pc := 10) hC 15 dX11_resolution_10 (by decide) (fun _ _ => ?_) (fun h => by cases h)
    refine x_iload_n (pc := 15) hC dX11_resolution_15 rfl ?_
    refine x_if_ne (pc := 16) hC 25 dX11_resolution_16 (by decide) (by omega) (fun b16 => ?_) (fun b16 => ?_)
    · refine x_iload_n (pc := 25) hC dX11_resolution_25 rfl ?_
      refine x_iconst (pc := 26) hC dX11_resolution_26 ?_
      refine x_icmp_ne (pc := 27) hC 36 dX11_resolution_27 (by decide) (by omega) (by omega) (fun b27 => ?_) (fun b27 => ?_)
      · refine x_iload_n (pc := 36) hC dX11_resolution_36 rfl ?_
        refine x_bipush (pc := 37) hC dX11_resolution_37 (by decide) ?_
        refine x_icmp_lt (pc := 39) hC 60 dX11_resolution_39 (by decide) (by omega) (by omega) (fun b39 => ?_) (fun b39 => ?_)
        · refine x_iload_n (pc := 60) hC dX11_resolution_60 rfl ?_
          refine x_bipush (pc := 61) hC dX11_resolution_61 (by decide) ?_
          refine x_isubW (pc := 63) hC dX11_resolution_63 rv (by decide) (fun v1 r1 e9 => ?_)
          refine x_mS (pc := 64) hC cs_X11_235 dX11_resolution_64 (c_isShapeIndex r1) rfl (by decide) rfl rfl (Nat.le_of_ble_eq_true rfl) ?_
          dsimp only [Option.toList, List.cons_append, List.nil_append]
          refine x_ifB_eq (pc := 67) hC 84 dX11_resolution_67 (by decide) (fun b67 => ?_) (fun b67 => ?_)
          · refine x_bipush (pc := 84) hC dX11_resolution_84 (by decide) ?_
            refine x_iret (pc := 86) hC rfl dX11_resolution_86 ?_
            refine ⟨⟨?_, scK.rf⟩, rfl, rfl, rfl⟩
            first
            | (rw [a1 v2 (by omega), if_pos (by omega), show v2 = v - 10 by omega]; done)
            | (rw [if_neg (by omega), if_neg (by omega), if_neg (by omega), if_neg (by omega)]; done)
          · refine x_aload_n (pc := 70) hC dX11_resolution_70 rfl ?_
            refine x_getO (pc := 71) hC gf_X11_229 dX11_resolution_71 t1 f1 ?_
            refine x_iload_n (pc := 74) hC dX11_resolution_74 rfl ?_
            refine x_bipush (pc := 75) hC dX11_resolution_75 (by decide) ?_
            refine x_isubW (pc := 77) hC dX11_resolution_77 rv (by decide) (fun v2 r2 e8 => ?_)
            refine x_mS (pc := 78) hC cs_X11_152 dX11_resolution_78 (c_elementOr u3 (by omega) r2) rfl (by decide) rfl rfl (Nat.le_of_ble_eq_true rfl) ?_
            dsimp only [Option.toList, List.cons_append, List.nil_append]
            refine x_goto (pc := 81) hC 86 dX11_resolution_81 (by decide) ?_
            refine x_iret (pc := 86) hC rfl dX11_resolution_86 ?_
            refine ⟨⟨?_, scK.rf⟩, rfl, rfl, rfl⟩
            first
            | (rw [a1 v2 (by omega), if_pos (by omega), show v2 = v - 10 by omega]; done)
            | (rw [if_neg (by omega), if_neg (by omega), if_neg (by omega), if_neg (by omega)]; done)
        · refine x_iload_n (pc := 42) hC dX11_resolution_42 rfl ?_
          refine x_bipush (pc := 43) hC dX11_resolution_43 (by decide) ?_
          refine x_icmp_ge (pc := 45) hC 60 dX11_resolution_45 (by decide) (by omega) (by omega) (fun b45 => ?_) (fun b45 => ?_)
          · refine x_iload_n (pc := 60) hC dX11_resolution_60 rfl ?_
            refine x_bipush (pc := 61) hC dX11_resolution_61 (by decide) ?_
            refine x_isubW (pc := 63) hC dX11_resolution_63 rv (by decide) (fun v1 r1 e9 => ?_)
            refine x_mS (pc := 64) hC cs_X11_235 dX11_resolution_64 (c_isShapeIndex r1) rfl (by decide) rfl rfl (Nat.le_of_ble_eq_true rfl) ?_
            dsimp only [Option.toList, List.cons_append, List.nil_append]
            refine x_ifB_eq (pc := 67) hC 84 dX11_resolution_67 (by decide) (fun b67 => ?_) (fun b67 => ?_)
            · refine x_bipush (pc := 84) hC dX11_resolution_84 (by decide) ?_
              refine x_iret (pc := 86) hC rfl dX11_resolution_86 ?_
              refine ⟨⟨?_, scK.rf⟩, rfl, rfl, rfl⟩
              first
              | (rw [a1 v2 (by omega), if_pos (by omega), show v2 = v - 10 by omega]; done)
              | (rw [if_neg (by omega), if_neg (by omega), if_neg (by omega), if_neg (by omega)]; done)
            · refine x_aload_n (pc := 70) hC dX11_resolution_70 rfl ?_
              refine x_getO (pc := 71) hC gf_X11_229 dX11_resolution_71 t1 f1 ?_
              refine x_iload_n (pc := 74) hC dX11_resolution_74 rfl ?_
              refine x_bipush (pc := 75) hC dX11_resolution_75 (by decide) ?_
              refine x_isubW (pc := 77) hC dX11_resolution_77 rv (by decide) (fun v2 r2 e8 => ?_)
              refine x_mS (pc := 78) hC cs_X11_152 dX11_resolution_78 (c_elementOr u3 (by omega) r2) rfl (by decide) rfl rfl (Nat.le_of_ble_eq_true rfl) ?_
              dsimp only [Option.toList, List.cons_append, List.nil_append]
              refine x_goto (pc := 81) hC 86 dX11_resolution_81 (by decide) ?_
              refine x_iret (pc := 86) hC rfl dX11_resolution_86 ?_
              refine ⟨⟨?_, scK.rf⟩, rfl, rfl, rfl⟩
              first
              | (rw [a1 v2 (by omega), if_pos (by omega), show v2 = v - 10 by omega]; done)
              | (rw [if_neg (by omega), if_neg (by omega), if_neg (by omega), if_neg (by omega)]; done)
          · refine x_aload_n (pc := 48) hC dX11_resolution_48 rfl ?_
            refine x_getO (pc := 49) hC gf_X11_234 dX11_resolution_49 t1 f2 ?_
            refine x_iload_n (pc := 52) hC dX11_resolution_52 rfl ?_
            refine x_bipush (pc := 53) hC dX11_resolution_53 (by decide) ?_
            refine x_isubW (pc := 55) hC dX11_resolution_55 rv (by decide) (fun v1 r1 e9 => ?_)
            refine x_mS (pc := 56) hC cs_X11_152 dX11_resolution_56 (c_elementOr v3 (by omega) r1) rfl (by decide) rfl rfl (Nat.le_of_ble_eq_true rfl) ?_
            dsimp only [Option.toList, List.cons_append, List.nil_append]
            refine x_iret (pc := 59) hC rfl dX11_resolution_59 ?_
            refine ⟨⟨?_, scK.rf⟩, rfl, rfl, rfl⟩
            rw [a2 v1 (by omega), if_neg (by omega), if_pos (by omega), show v1 = v - 70 by omega]
      · refine x_aload_n (pc := 30) hC dX11_resolution_30 rfl ?_
        refine x_getO (pc := 31) hC gf_X11_234 dX11_resolution_31 t1 f2 ?_
        refine x_alen (pc := 34) hC dX11_resolution_34 (by rw [v3]; decide) (by rw [v3]; decide) ?_
        refine x_iret (pc := 35) hC rfl dX11_resolution_35 ?_
        refine ⟨⟨?_, scK.rf⟩, rfl, rfl, rfl⟩
        rw [if_neg (by omega), if_neg (by omega), if_neg (by omega), if_pos (by assumption), v4']
    · refine x_aload_n (pc := 19) hC dX11_resolution_19 rfl ?_
      refine x_getO (pc := 20) hC gf_X11_229 dX11_resolution_20 t1 f1 ?_
      refine x_alen (pc := 23) hC dX11_resolution_23 (by rw [u3]; decide) (by rw [u3]; decide) ?_
      refine x_iret (pc := 24) hC rfl dX11_resolution_24 ?_
      refine ⟨⟨?_, scK.rf⟩, rfl, rfl, rfl⟩
      rw [if_neg (by omega), if_neg (by omega), if_pos (by assumption), u4']
  · rw [if_neg hk]
    rw [if_neg (by omega)] at hrA
    refine x_aload_n (pc := 0) hC dX11_resolution_0 rfl ?_
    refine x_getO (pc := 1) hC gf_X11_36 dX11_resolution_1 (fx_ta hx) (fx_mg hx).1 ?_
    refine x_iload_n (pc := 4) hC dX11_resolution_4 rfl ?_
    refine x_mV (pc := 5) hC cv_X11_225 dX11_resolution_5 hrA (fx_mg hx).2.1 rfl (by decide) rfl rfl (Nat.le_of_ble_eq_true rfl) ?_
    dsimp only [Option.toList, List.cons_append, List.nil_append]
    refine x_astore_n (pc := 8) hC dX11_resolution_8 (Nat.le_of_ble_eq_true rfl) ?_
    dsimp only [List.set]
    refine x_aload_n (pc := 9) hC dX11_resolution_9 rfl ?_
    refine x_ifnonnull (pc := 10) hC 15 dX11_resolution_10 (by decide) (fun _ h => by cases h) (fun _ => ?_)
    refine x_iconst (pc := 13) hC dX11_resolution_13 ?_
    refine x_iret (pc := 14) hC rfl dX11_resolution_14 ?_
    exact ⟨⟨rfl, scK.rf⟩, rfl, rfl, rfl⟩

