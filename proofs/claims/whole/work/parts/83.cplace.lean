/-! THE CLASS: a commit is placed -/
theorem kdT_r (n : Nat) : 0 ≤ kdT n ∧ kdT n ≤ 2 := by unfold kdT; split <;> (try split) <;> omega
theorem miS_pu {σ : Nat → Int → Int} {o : Nat} {q : Int} (h : miS σ o) : miS (puA σ o q) o := by
  unfold miS puA at *
  rw [axu_row (show o + 31 ≠ o + 29 by omega), axu_row (show o + 32 ≠ o + 29 by omega), axu_row (show o + 33 ≠ o + 29 by omega), axu_row (show o + 34 ≠ o + 29 by omega), axu_row (show o + 35 ≠ o + 29 by omega), axu_row (show o + 36 ≠ o + 29 by omega), axu_row (show o + 4 ≠ o + 29 by omega), axu_row (show o ≠ o + 29 by omega)]
  exact h
theorem lay_43 {σ : Nat → Int → Int} {o : Nat} {c v : Int} {L : List Int} : layI (ax_u σ o 43 v) o c L = ax_u (layI σ o c L) o 43 v := by
  funext q j
  by_cases h5 : q = o + 5
  · rw [h5, axu_a (by omega), lay_l, lay_l, axu_a (by omega)]
  · by_cases h6 : q = o + 6
    · rw [h6, axu_a (by omega), lay_s, lay_s, axu_a (by omega)]
    · rw [lay_row h5 h6]
      by_cases hq : q = o ∧ j = 43
      · rw [hq.1, hq.2, axu_s, axu_s]
      · unfold ax_u
        rw [if_neg hq, if_neg hq, lay_row h5 h6]

set_option maxHeartbeats 4000000 in
set_option maxRecDepth 100000 in
theorem c_place {G : ax_G} {T : Nat → Nat} {N : Nat → Int} {I : Nat → Int → Int} {R : Nat → Int → Option Nat} {z a o : Nat} {σ : Nat → Int → Int} {A w : Int → Nat} {e : Int} (h : Mid G T N I R z a o σ A w e) (g : gI σ o) (hMS : miS σ o) (h47 : σ o 47 < σ o 46) (hm : σ o 2 < 24) (hTO : σ o 43 = σ o 42 ∨ σ o 44 ≤ σ o 43) (hOM : σ o 42 < σ o 44) : axM G YX11_place 6 [vR a, vR (a + 183), vR (A (goX σ o))] T N I R z 2 22 (fun r1 T1 N1 I1 R1 z1 => r1 = some (vI (stp (goM σ o))) ∧ fro a o T N I R T1 N1 I1 R1 ∧ z ≤ z1 ∧ ∃ A1 w1, Mid G T1 N1 I1 R1 z1 a o (if stp (goM σ o) = 0 then puF σ o (goX σ o) (goM σ o).1 (goM σ o).2.1 else σ) A1 w1 e) := by

  refine ax_enter (by decide) (Nat.le_of_ble_eq_true rfl) (ax_cat rfl) (fun f hC => ?_)
  show axX G f 2 22 _ 0 [vR a, vR (a + 183), vR (A (goX σ o))] [] T N I R z 2 22
  have hx := rl_fx h.1
  have b0 := fx_b0 hx
  have b1 := fx_b1 hx
  have b2 := fx_b2 hx
  have m0 : ax_u σ o 40 e o 2 = σ o 2 := e_fld (by decide)
  have r2 : ax_u σ o 40 e (o + 2) = σ (o + 2) := e_row (by omega)
  obtain ⟨gC, gR, gP⟩ := g
  have hC1 := gC.1
  have gx : 0 < goX σ o ∧ goX σ o < σ o 2 := gP.2.1 (σ o 47) gP.1.1 h47
  have gt := gP.2.2.1
  have go_ := gP.2.2.2.1
  have hpp : 0 ≤ σ (o + 2) (goX σ o) ∧ σ (o + 2) (goX σ o) < goX σ o := gC.2.2.1.2 _ gx.1 gx.2
  have cx : 0 ≤ goX σ o ∧ goX σ o < ax_u σ o 40 e o 2 := by rw [m0]; exact ⟨by omega, gx.2⟩
  have ct : 0 ≤ σ o 43 ∧ σ o 43 < ax_u σ o 40 e o 2 := by rw [m0]; exact gt
  have co : 0 ≤ σ o 42 ∧ σ o 42 < ax_u σ o 40 e o 2 := by rw [m0]; exact go_
  have cp : 0 ≤ σ (o + 2) (goX σ o) ∧ σ (o + 2) (goX σ o) < ax_u σ o 40 e o 2 := by rw [m0]; exact ⟨hpp.1, by omega⟩
  have wx := rl_wo h.1 cx.1 cx.2
  have wt := rl_wo h.1 ct.1 ct.2
  have wp := rl_wo h.1 cp.1 cp.2
  have ko := (rl_wo h.1 co.1 co.2).2.2.2.1
  have kx := wx.2.2.2.1
  have kt := wt.2.2.2.1
  have hkd : kdT (T (A (goX σ o))) = σ (o + 1) (goX σ o) := by have := (rl_cc h.1 _ cx.1 cx.2).2.1; rw [e_row (by omega)] at this; exact this
  have hkb := gC.2.2.2.2.2 (goX σ o)
  have hkr : ax_r (σ (o + 1) (goX σ o)) := by constructor <;> omega
  have hpr := c_parentRow (G := G) (z := z) (rl_cs h.1) (c := goX σ o) cx
  rw [r2, show pwA w (σ (o + 2)) (goX σ o) = w (σ (o + 2) (goX σ o)) from if_neg (by omega)] at hpr
  have rp_ := rl_row h.1 cp.1 cp.2
  have rt_ := rl_row h.1 ct.1 ct.2
  have rx_ := rl_row h.1 cx.1 cx.2
  rw [e_rowL] at rp_ rt_ rx_
  have hmg := cl_mg (wd := -9) h.1 (e_miR gR) (by decide) wp.1 wt.1 wx.1 rp_.1 rt_.1 rx_.1 wp.2.1 wt.2.1 wx.2.1
  rw [e_rsL] at hmg
  change axR G YX3_mergeRows 3 _ T N I R z (fun q1 I1 R1 => q1 = none ∧ mgV I I1 R R1 (a + 5) (w (σ (o + 2) (goX σ o))) (w (σ o 43)) (w (goX σ o)) (-9) (goM σ o) ∧ ((goM σ o).1.length ≤ 150 ∧ isLn (goM σ o).1) ∧ (goM σ o).2.2.length ≤ 17 ∧ ∀ q ∈ (goM σ o).2.2, gOk q) at hmg
  obtain ⟨-, ⟨konto, ktop⟩, -⟩ := h.2
  have hcf : 0 ≤ (goM σ o).2.1 := (mrgL_c _ _ _ _).1
  have ltx : ((rowL σ o (σ o 43)).length : Int) = σ (o + 6) (σ o 43) := rowL_len gC.2.1 _
  have lt16 := gC.2.1.2 (σ o 43)
  have inj : A (σ o 43) = A (σ o 42) → σ o 43 = σ o 42 := fun he => by
    have e1 := ((rl_cs h.1).2 _ ct.1 ct.2).2.1
    have e2 := ((rl_cs h.1).2 _ co.1 co.2).2.1
    rw [he, e2] at e1
    exact e1.symm
  refine x_aload_n (pc := 0) hC dX11_place_0 rfl ?_
  refine x_getO (pc := 1) hC gf_X11_36 dX11_place_1 (fx_ta hx) (fx_mg hx).1 ?_
  refine x_aload_n (pc := 4) hC dX11_place_4 rfl ?_
  refine x_mU (pc := 5) hC (cq_X11_387 kx) dX11_place_5 hpr rfl rfl (by decide) rfl rfl (Nat.le_of_ble_eq_true rfl) ?_
  dsimp only [Option.toList, List.cons_append, List.nil_append]
  refine x_aload_n (pc := 8) hC dX11_place_8 rfl ?_
  refine x_getO (pc := 9) hC gf_X11_279 dX11_place_9 (fx_cu hx).2.1.1 ktop ?_
  refine x_getO (pc := 12) hC (gp_X11_133 kt) dX11_place_12 rfl wt.2.2.1 ?_
  refine x_aload_n (pc := 15) hC dX11_place_15 rfl ?_
  refine x_getO (pc := 16) hC (gp_X11_133 kx) dX11_place_16 rfl wx.2.2.1 ?_
  refine x_bipush (pc := 19) hC dX11_place_19 (by decide) ?_
  refine x_rV (pc := 21) hC cv_X11_187 dX11_place_21 hmg (fx_mg hx).2.1 rfl (by decide) rfl rfl (Nat.le_of_ble_eq_true rfl) ?_
  rintro v9 J S ⟨rfl, mV, ⟨m1, m2⟩, m3, m4⟩
  dsimp only [Option.toList, List.nil_append]
  have s1 : scK T N a I J R S := sc_mg mV
  have h1 := h.sc s1
  have hx1 := rl_fx h1.1
  obtain ⟨-, ⟨x1, x2, x3⟩, -⟩ := mV
  have x4 := x1.1
  obtain ⟨-, ⟨konto1, ktop1⟩, -⟩ := h1.2
  have wt1 := (rl_wo h1.1 ct.1 ct.2).2.2.1
  have wt1r := (rl_wo h1.1 ct.1 ct.2).1
  have rt1 := rl_row h1.1 ct.1 ct.2
  rw [e_rowL] at rt1
  refine x_aload_n (pc := 24) hC dX11_place_24 rfl ?_
  refine x_getO (pc := 25) hC gf_X11_36 dX11_place_25 (fx_ta hx) (fx_mg hx1).1 ?_
  refine x_getI (pc := 28) hC gf_X11_219 dX11_place_28 (fx_mg hx1).2.1 ?_
  rw [x3]
  refine x_if_le (pc := 31) hC 36 dX11_place_31 (by decide) (by omega) (fun b31 => ?_) (fun b31 => ?_)
  · refine x_aload_n (pc := 36) hC dX11_place_36 rfl ?_
    refine x_getO (pc := 37) hC gf_X11_36 dX11_place_37 (fx_ta hx) (fx_mg hx1).1 ?_
    refine x_getI (pc := 40) hC gf_X11_194 dX11_place_40 (fx_mg hx1).2.1 ?_
    refine x_bipush (pc := 43) hC dX11_place_43 (by decide) ?_
    rw [x4]
    refine x_icmp_le (pc := 45) hC 50 dX11_place_45 (by decide) (by omega) (by omega) (fun b45 => ?_) (fun b45 => ?_)
    · have hst : stp (goM σ o) = 0 := by unfold stp; rw [if_neg (by omega), if_neg (by omega)]
      rw [hst, if_pos rfl]
      have fg1 : ∀ k, 0 ≤ k → k < 4 → J (a + 184 + 2) k = σ (o + 29) k := fun k e0 e1 => by have := rl_fg h1.1 k e0 e1; rw [e_row (by omega)] at this; exact this
      refine x_aload_n (pc := 50) hC dX11_place_50 rfl ?_
      refine x_getO (pc := 51) hC gf_X11_210 dX11_place_51 (fx_cu hx).2.1.1 (fx_cu hx1).2.1.2.2.2.1.1 ?_
      refine x_iconst (pc := 54) hC dX11_place_54 ?_
      refine x_dup2 (pc := 55) hC dX11_place_55 rfl rfl ?_
      refine x_iald (pc := 56) hC dX11_place_56 (fx_cu hx1).2.1.2.2.2.1.2.1 (by omega) (by rw [(fx_cu hx1).2.1.2.2.2.1.2.2]; omega) ?_
      refine x_aload_n (pc := 57) hC dX11_place_57 rfl ?_
      refine x_getO (pc := 58) hC gf_X11_36 dX11_place_58 (fx_ta hx) (fx_mg hx1).1 ?_
      refine x_getI (pc := 61) hC gf_X11_191 dX11_place_61 (fx_mg hx1).2.1 ?_
      rw [fg1 3 (by omega) (by omega), x2]
      refine x_iadd (pc := 64) hC dX11_place_64 ?_
      refine x_iast (pc := 65) hC dX11_place_65 (fx_cu hx1).2.1.2.2.2.1.2.1 (by omega) (by rw [(fx_cu hx1).2.1.2.2.2.1.2.2]; omega) ?_
      have h2 : Mid G T N (ax_u J (a + 184 + 2) 3 (σ (o + 29) 3 + (goM σ o).2.1)) S z a o (puA σ o (goM σ o).2.1) A w e := h1.fig (j := 3) (v := σ (o + 29) 3 + (goM σ o).2.1) (by omega)
      have x1' : rlS (ax_u J (a + 184 + 2) 3 (σ (o + 29) 3 + (goM σ o).2.1)) (a + 5) (goM σ o).1 := ⟨by rw [axu_a (by omega)]; exact x1.1, by rw [axu_row (by omega)]; exact x1.2⟩
      have hfr1 : fro a o T N I R T N (ax_u J (a + 184 + 2) 3 (σ (o + 29) 3 + (goM σ o).2.1)) S := (fro_sc s1 b1).tr (fun q hq => ⟨rfl, rfl, axu_row (by omega), rfl⟩)
      have ct2 : 0 ≤ σ o 43 ∧ σ o 43 < ax_u (puA σ o (goM σ o).2.1) o 40 e o 2 := by rw [e_fld (by decide)]; unfold puA; rw [axu_a (by omega)]; exact gt
      have wt1r2 : rwS T N (ax_u J (a + 184 + 2) 3 (σ (o + 29) 3 + (goM σ o).2.1)) (w (σ o 43)) := (rl_wo h2.1 ct2.1 ct2.2).1
      have rt2 := rl_row h2.1 ct2.1 ct2.2
      have erl : ∀ v c, rowL (ax_u (puA σ o v) o 40 e) o c = rowL σ o c := fun v c => by rw [e_rowL]; unfold puA rowL rwI; rw [axu_row (by omega), axu_row (by omega)]
      rw [erl] at rt2
      have g2 : gI (puA σ o (goM σ o).2.1) o := gI_u29 ⟨gC, gR, gP⟩
      have hre := c_resultEquals (G := G) (T := T) (N := N) (z := z) (R := S) (r := w (σ o 43)) (l := rowL σ o (σ o 43)) (fx_mg hx1).2 x1' m1 m2 wt1r2.1 (by rw [rt2.2, e_row (by omega), ltx]; unfold puA; rw [axu_a (by omega)]) (by rw [ltx]; have := rt2.1; rw [rt2.2, e_row (by omega)] at this; unfold puA at this; rw [axu_a (by omega)] at this; exact this) (by omega) (fun v hv => by rw [← rt2.1] at hv; obtain ⟨j, j0, j1, rfl⟩ := seg_mem.mp hv; exact wt1r2.2.2 j j0 j1)
      have eq_ : ∀ j, j ≠ 3 → (ax_u J (a + 184 + 2) 3 (σ (o + 29) 3 + (goM σ o).2.1)) (a + 184 + 2) j = J (a + 184 + 2) j := fun j hj => axu_j hj
      unfold puF
      refine x_aload_n (pc := 66) hC dX11_place_66 rfl ?_
      refine x_kind (pc := 67) hC kx dX11_place_67 (by decide) rfl (Nat.le_of_ble_eq_true rfl) ?_
      rw [hkd]
      refine x_if_ne (pc := 70) hC 103 dX11_place_70 (by decide) hkr (fun b70 => ?_) (fun b70 => ?_)
      · refine x_aload_n (pc := 103) hC dX11_place_103 rfl ?_
        refine x_kind (pc := 104) hC kx dX11_place_104 (by decide) rfl (Nat.le_of_ble_eq_true rfl) ?_
        rw [hkd]
        refine x_iconst (pc := 107) hC dX11_place_107 ?_
        refine x_icmp_ne (pc := 108) hC 149 dX11_place_108 (by decide) hkr (by omega) (fun b108 => ?_) (fun b108 => ?_)
        · have hno : ¬ (σ (o + 1) (goX σ o) = 0 ∧ rowL σ o (σ o 43) = (goM σ o).1) := fun h9 => by
            first
            | exact b87 h9.2.symm
            | exact b70 h9.1
          have hno2 : ¬ (σ (o + 1) (goX σ o) = 2 ∧ σ o 44 ≤ σ o 43) := fun h9 => by
            first
            | exact b108 h9.1
            | exact absurd h9.2 (by rw [inj (Option.some.inj b119)]; exact Int.not_le.mpr hOM)
          rw [if_neg hno, if_neg hno2]
          refine x_aload_n (pc := 149) hC dX11_place_149 rfl ?_
          refine x_getO (pc := 150) hC gf_X11_393 dX11_place_150 (fx_cu hx).2.1.1 (fx_cu hx1).2.2 ?_
          refine x_ifnonnull (pc := 153) hC 193 dX11_place_153 (by decide) (fun _ h => by cases h) (fun _ => ?_)
          refine x_aload_n (pc := 156) hC dX11_place_156 rfl ?_
          refine x_aload_n (pc := 157) hC dX11_place_157 rfl ?_
          refine x_aload_n (pc := 158) hC dX11_place_158 rfl ?_
          refine x_kind (pc := 159) hC kx dX11_place_159 (by decide) rfl (Nat.le_of_ble_eq_true rfl) ?_
          rw [hkd]
          refine x_aload_n (pc := 162) hC dX11_place_162 rfl ?_
          refine x_getO (pc := 163) hC gf_X11_279 dX11_place_163 (fx_cu hx).2.1.1 ktop1 ?_
          refine x_aload_n (pc := 166) hC dX11_place_166 rfl ?_
          refine x_getO (pc := 167) hC gf_X11_36 dX11_place_167 (fx_ta hx) (fx_mg hx1).1 ?_
          refine x_callV (pc := 170) hC cv_X11_195 dX11_place_170 (c_copyResult (fx_mg hx1).2 x1' m1 (by omega) (by omega)) (fx_mg hx1).2.1 rfl (by decide) (by omega) (by omega) rfl rfl (Nat.le_of_ble_eq_true rfl) (fun _ _ _ _ _ _ hq => ?_)
          obtain ⟨rfl, rfl, rfl, rfl, rfl, row, rfl, hrow⟩ := hq
          dsimp only [Option.toList, List.cons_append, List.nil_append]
          have h3 : Mid G (ax_n T z 13) (ax_n N z ((goM σ o).1.length : Int)) (ax_n (ax_u J (a + 184 + 2) 3 (σ (o + 29) 3 + (goM σ o).2.1)) z row) (ax_n S z (fun _ => none)) (z + 1) a o (puA σ o (goM σ o).2.1) A w e := h2.nw
          have hx3 := rl_fx h3.1
          have kt3 : pT (ax_n T z 13 (A (σ o 43))) := (rl_wo h3.1 ct2.1 ct2.2).2.2.2.1
          have kx3 : pT (ax_n T z 13 (A (goX σ o))) := by rw [axn_a (by have := fx_tz hx (A (goX σ o)) (by rcases kx with e9 | e9 | e9 <;> omega); omega)]; exact kx
          refine x_aload_n (pc := 173) hC dX11_place_173 rfl ?_
          refine x_callV (pc := 174) hC cv_X11_116 dX11_place_174 (c_makeCommit hx3 (k := σ (o + 1) (goX σ o)) (p := some (A (σ o 43))) (r := some z) (q := some (A (goX σ o))) (by omega) (by rw [axn_a (show a ≠ z by omega), axu_a (show a ≠ a + 184 + 2 by omega)]; have := rl_n h1.1; rw [m0] at this; omega)) (fx_ta hx3) rfl (by decide) (by omega) (by omega) rfl rfl (Nat.le_of_ble_eq_true rfl) (fun _ _ _ _ _ _ hq => ?_)
          obtain ⟨rfl, rfl, rfl, rfl, rfl, rfl⟩ := hq
          dsimp only [Option.toList, List.cons_append, List.nil_append]
          have p2_ : puA σ o (goM σ o).2.1 o 2 = σ o 2 := by unfold puA; rw [axu_a (by omega)]
          have h4 := h3.made g2 (miS_pu hMS) (k := σ (o + 1) (goX σ o)) (p := σ o 43) (g := goX σ o) (r := z) (L := (goM σ o).1) (by rw [p2_]; exact hm) (by omega) (by rw [p2_]; exact gt) (by rw [p2_]; exact ⟨Int.le_of_lt gx.1, gx.2⟩) (by
            unfold rwS
            rw [axn_s, axn_s, axn_s]
            refine ⟨rfl, by omega, fun j j0 j1 => m2 _ ?_⟩
            rw [← hrow]
            exact seg_mem.mpr ⟨j, j0, j1, rfl⟩) ⟨axn_s, by rw [axn_s]; exact hrow⟩ (by omega) (by omega) (fun s hs h9 => by
            rw [axn_a (by omega)] at h9
            have h13 := (rl_ar h2.1 (e_miS (miS_pu hMS)) hs z h9).1.1
            have := fx_tz (rl_fx h2.1) z (by omega)
            omega)
          rw [p2_] at h4
          have hx4 := rl_fx h4.1
          have kx4 : pT (ax_n (ax_n T z 13) (z + 1) (tgK (σ (o + 1) (goX σ o))) (A (goX σ o))) := by
            have := fx_tz hx (A (goX σ o)) (by rcases kx with e9 | e9 | e9 <;> omega)
            rw [axn_a (by omega), axn_a (by omega)]; exact kx
          have h5 := h4.top (t := σ o 2)
          simp only [if_true] at h5
          have hx6 := rl_fx h5.1
          have fg5 : (mkI (ax_n (ax_u J (a + 184 + 2) 3 (σ (o + 29) 3 + (goM σ o).2.1)) z row) (z + 1) a (σ (o + 1) (goX σ o)) (some (A (goX σ o)))) (a + 184 + 2) 0 = σ (o + 29) 0 := by rw [mkI_o (by omega) (by omega) (by omega), axn_a (by omega), eq_ 0 (by decide)]; exact fg1 0 (by omega) (by omega)
          refine x_putO (pc := 177) hC pf_X11_279 dX11_place_177 (Or.inl ⟨_, rfl⟩) (fx_cu hx4).2.1.1 (by decide) ?_
          refine x_aload_n (pc := 180) hC dX11_place_180 rfl ?_
          refine x_getO (pc := 181) hC gf_X11_210 dX11_place_181 (fx_cu hx4).2.1.1 (fx_cu hx6).2.1.2.2.2.1.1 ?_
          refine x_iconst (pc := 184) hC dX11_place_184 ?_
          refine x_dup2 (pc := 185) hC dX11_place_185 rfl rfl ?_
          refine x_iald (pc := 186) hC dX11_place_186 (fx_cu hx6).2.1.2.2.2.1.2.1 (by omega) (by rw [(fx_cu hx4).2.1.2.2.2.1.2.2]; omega) ?_
          refine x_iconst (pc := 187) hC dX11_place_187 ?_
          rw [fg5]
          refine x_iadd (pc := 188) hC dX11_place_188 ?_
          refine x_iast (pc := 189) hC dX11_place_189 (fx_cu hx6).2.1.2.2.2.1.2.1 (by omega) (by rw [(fx_cu hx4).2.1.2.2.2.1.2.2]; omega) ?_
          refine x_goto (pc := 190) hC 225 dX11_place_190 (by decide) ?_
          refine x_iconst (pc := 225) hC dX11_place_225 ?_
          refine x_iret (pc := 226) hC rfl dX11_place_226 ?_
          refine ⟨rfl, hfr1.tr ((fro_nw b1 b2).tr ((fro_md b1 (by omega)).tr (fun q hq => ⟨rfl, rfl, axu_row (by omega), axu_row (by omega)⟩))), by omega, (fun c => if c = σ o 2 then z + 1 else A c), (fun c => if c = σ o 2 then z else w c), ?_⟩
          have h6 := h5.fig (j := 0) (v := σ (o + 29) 0 + 1) (by omega)
          rw [← lay_43] at h6
          exact h6
        · refine x_aload_n (pc := 111) hC dX11_place_111 rfl ?_
          refine x_getO (pc := 112) hC gf_X11_279 dX11_place_112 (fx_cu hx).2.1.1 ktop1 ?_
          refine x_aload_n (pc := 115) hC dX11_place_115 rfl ?_
          refine x_getO (pc := 116) hC gf_X11_390 dX11_place_116 (fx_cu hx).2.1.1 konto1 ?_
          refine x_acmp_eq (pc := 119) hC 149 dX11_place_119 (by decide) (fun b119 => ?_) (fun b119 => ?_)
          · have hno : ¬ (σ (o + 1) (goX σ o) = 0 ∧ rowL σ o (σ o 43) = (goM σ o).1) := fun h9 => by
              first
              | exact b87 h9.2.symm
              | exact b70 h9.1
            have hno2 : ¬ (σ (o + 1) (goX σ o) = 2 ∧ σ o 44 ≤ σ o 43) := fun h9 => by
              first
              | exact b108 h9.1
              | exact absurd h9.2 (by rw [inj (Option.some.inj b119)]; exact Int.not_le.mpr hOM)
            rw [if_neg hno, if_neg hno2]
            refine x_aload_n (pc := 149) hC dX11_place_149 rfl ?_
            refine x_getO (pc := 150) hC gf_X11_393 dX11_place_150 (fx_cu hx).2.1.1 (fx_cu hx1).2.2 ?_
            refine x_ifnonnull (pc := 153) hC 193 dX11_place_153 (by decide) (fun _ h => by cases h) (fun _ => ?_)
            refine x_aload_n (pc := 156) hC dX11_place_156 rfl ?_
            refine x_aload_n (pc := 157) hC dX11_place_157 rfl ?_
            refine x_aload_n (pc := 158) hC dX11_place_158 rfl ?_
            refine x_kind (pc := 159) hC kx dX11_place_159 (by decide) rfl (Nat.le_of_ble_eq_true rfl) ?_
            rw [hkd]
            refine x_aload_n (pc := 162) hC dX11_place_162 rfl ?_
            refine x_getO (pc := 163) hC gf_X11_279 dX11_place_163 (fx_cu hx).2.1.1 ktop1 ?_
            refine x_aload_n (pc := 166) hC dX11_place_166 rfl ?_
            refine x_getO (pc := 167) hC gf_X11_36 dX11_place_167 (fx_ta hx) (fx_mg hx1).1 ?_
            refine x_callV (pc := 170) hC cv_X11_195 dX11_place_170 (c_copyResult (fx_mg hx1).2 x1' m1 (by omega) (by omega)) (fx_mg hx1).2.1 rfl (by decide) (by omega) (by omega) rfl rfl (Nat.le_of_ble_eq_true rfl) (fun _ _ _ _ _ _ hq => ?_)
            obtain ⟨rfl, rfl, rfl, rfl, rfl, row, rfl, hrow⟩ := hq
            dsimp only [Option.toList, List.cons_append, List.nil_append]
            have h3 : Mid G (ax_n T z 13) (ax_n N z ((goM σ o).1.length : Int)) (ax_n (ax_u J (a + 184 + 2) 3 (σ (o + 29) 3 + (goM σ o).2.1)) z row) (ax_n S z (fun _ => none)) (z + 1) a o (puA σ o (goM σ o).2.1) A w e := h2.nw
            have hx3 := rl_fx h3.1
            have kt3 : pT (ax_n T z 13 (A (σ o 43))) := (rl_wo h3.1 ct2.1 ct2.2).2.2.2.1
            have kx3 : pT (ax_n T z 13 (A (goX σ o))) := by rw [axn_a (by have := fx_tz hx (A (goX σ o)) (by rcases kx with e9 | e9 | e9 <;> omega); omega)]; exact kx
            refine x_aload_n (pc := 173) hC dX11_place_173 rfl ?_
            refine x_callV (pc := 174) hC cv_X11_116 dX11_place_174 (c_makeCommit hx3 (k := σ (o + 1) (goX σ o)) (p := some (A (σ o 43))) (r := some z) (q := some (A (goX σ o))) (by omega) (by rw [axn_a (show a ≠ z by omega), axu_a (show a ≠ a + 184 + 2 by omega)]; have := rl_n h1.1; rw [m0] at this; omega)) (fx_ta hx3) rfl (by decide) (by omega) (by omega) rfl rfl (Nat.le_of_ble_eq_true rfl) (fun _ _ _ _ _ _ hq => ?_)
            obtain ⟨rfl, rfl, rfl, rfl, rfl, rfl⟩ := hq
            dsimp only [Option.toList, List.cons_append, List.nil_append]
            have p2_ : puA σ o (goM σ o).2.1 o 2 = σ o 2 := by unfold puA; rw [axu_a (by omega)]
            have h4 := h3.made g2 (miS_pu hMS) (k := σ (o + 1) (goX σ o)) (p := σ o 43) (g := goX σ o) (r := z) (L := (goM σ o).1) (by rw [p2_]; exact hm) (by omega) (by rw [p2_]; exact gt) (by rw [p2_]; exact ⟨Int.le_of_lt gx.1, gx.2⟩) (by
              unfold rwS
              rw [axn_s, axn_s, axn_s]
              refine ⟨rfl, by omega, fun j j0 j1 => m2 _ ?_⟩
              rw [← hrow]
              exact seg_mem.mpr ⟨j, j0, j1, rfl⟩) ⟨axn_s, by rw [axn_s]; exact hrow⟩ (by omega) (by omega) (fun s hs h9 => by
              rw [axn_a (by omega)] at h9
              have h13 := (rl_ar h2.1 (e_miS (miS_pu hMS)) hs z h9).1.1
              have := fx_tz (rl_fx h2.1) z (by omega)
              omega)
            rw [p2_] at h4
            have hx4 := rl_fx h4.1
            have kx4 : pT (ax_n (ax_n T z 13) (z + 1) (tgK (σ (o + 1) (goX σ o))) (A (goX σ o))) := by
              have := fx_tz hx (A (goX σ o)) (by rcases kx with e9 | e9 | e9 <;> omega)
              rw [axn_a (by omega), axn_a (by omega)]; exact kx
            have h5 := h4.top (t := σ o 2)
            simp only [if_true] at h5
            have hx6 := rl_fx h5.1
            have fg5 : (mkI (ax_n (ax_u J (a + 184 + 2) 3 (σ (o + 29) 3 + (goM σ o).2.1)) z row) (z + 1) a (σ (o + 1) (goX σ o)) (some (A (goX σ o)))) (a + 184 + 2) 0 = σ (o + 29) 0 := by rw [mkI_o (by omega) (by omega) (by omega), axn_a (by omega), eq_ 0 (by decide)]; exact fg1 0 (by omega) (by omega)
            refine x_putO (pc := 177) hC pf_X11_279 dX11_place_177 (Or.inl ⟨_, rfl⟩) (fx_cu hx4).2.1.1 (by decide) ?_
            refine x_aload_n (pc := 180) hC dX11_place_180 rfl ?_
            refine x_getO (pc := 181) hC gf_X11_210 dX11_place_181 (fx_cu hx4).2.1.1 (fx_cu hx6).2.1.2.2.2.1.1 ?_
            refine x_iconst (pc := 184) hC dX11_place_184 ?_
            refine x_dup2 (pc := 185) hC dX11_place_185 rfl rfl ?_
            refine x_iald (pc := 186) hC dX11_place_186 (fx_cu hx6).2.1.2.2.2.1.2.1 (by omega) (by rw [(fx_cu hx4).2.1.2.2.2.1.2.2]; omega) ?_
            refine x_iconst (pc := 187) hC dX11_place_187 ?_
            rw [fg5]
            refine x_iadd (pc := 188) hC dX11_place_188 ?_
            refine x_iast (pc := 189) hC dX11_place_189 (fx_cu hx6).2.1.2.2.2.1.2.1 (by omega) (by rw [(fx_cu hx4).2.1.2.2.2.1.2.2]; omega) ?_
            refine x_goto (pc := 190) hC 225 dX11_place_190 (by decide) ?_
            refine x_iconst (pc := 225) hC dX11_place_225 ?_
            refine x_iret (pc := 226) hC rfl dX11_place_226 ?_
            refine ⟨rfl, hfr1.tr ((fro_nw b1 b2).tr ((fro_md b1 (by omega)).tr (fun q hq => ⟨rfl, rfl, axu_row (by omega), axu_row (by omega)⟩))), by omega, (fun c => if c = σ o 2 then z + 1 else A c), (fun c => if c = σ o 2 then z else w c), ?_⟩
            have h6 := h5.fig (j := 0) (v := σ (o + 29) 0 + 1) (by omega)
            rw [← lay_43] at h6
            exact h6
          · have hk2 : σ (o + 1) (goX σ o) = 2 := by
              first
              | exact b108
              | exact Decidable.of_not_not b108
            have hno : ¬ (σ (o + 1) (goX σ o) = 0 ∧ rowL σ o (σ o 43) = (goM σ o).1) := fun h9 => by rw [hk2] at h9; exact absurd h9.1 (by decide)
            rw [if_neg hno, if_pos ⟨hk2, hTO.resolve_left (fun h9 => b119 (by rw [h9]))⟩]
            refine x_aload_n (pc := 122) hC dX11_place_122 rfl ?_
            refine x_getO (pc := 123) hC gf_X11_279 dX11_place_123 (fx_cu hx).2.1.1 ktop1 ?_
            refine x_aload_n (pc := 126) hC dX11_place_126 rfl ?_
            refine x_getO (pc := 127) hC gf_X11_36 dX11_place_127 (fx_ta hx) (fx_mg hx1).1 ?_
            refine x_callV (pc := 130) hC cv_X11_195 dX11_place_130 (c_copyResult (fx_mg hx1).2 x1' m1 (by omega) (by omega)) (fx_mg hx1).2.1 rfl (by decide) (by omega) (by omega) rfl rfl (Nat.le_of_ble_eq_true rfl) (fun _ _ _ _ _ _ hq => ?_)
            obtain ⟨rfl, rfl, rfl, rfl, rfl, row, rfl, hrow⟩ := hq
            dsimp only [Option.toList, List.cons_append, List.nil_append]
            have h4 : Mid G (ax_n T z 13) (ax_n N z ((goM σ o).1.length : Int)) (ax_n (ax_u J (a + 184 + 2) 3 (σ (o + 29) 3 + (goM σ o).2.1)) z row) (ax_n S z (fun _ => none)) (z + 1) a o (puA σ o (goM σ o).2.1) A w e := h2.nw
            have hx4 := rl_fx h4.1
            have kt4 : pT (ax_n T z 13 (A (σ o 43))) := (rl_wo h4.1 ct2.1 ct2.2).2.2.2.1
            have kx4 : pT (ax_n T z 13 (A (goX σ o))) := by rw [axn_a (by have := fx_tz hx (A (goX σ o)) (by rcases kx with e9 | e9 | e9 <;> omega); omega)]; exact kx
            have gt2 : 0 ≤ σ o 43 ∧ σ o 43 < puA σ o (goM σ o).2.1 o 2 := by unfold puA; rw [axu_a (by omega)]; exact gt
            have h5 := h4.melt g2 (t := σ o 43) (r := z) (L := (goM σ o).1) gt2 (by
              unfold rwS
              rw [axn_s, axn_s, axn_s]
              refine ⟨rfl, by omega, fun j j0 j1 => m2 _ ?_⟩
              rw [← hrow]
              exact seg_mem.mpr ⟨j, j0, j1, rfl⟩) ⟨axn_s, by rw [axn_s]; exact hrow⟩ (by omega) (by omega) (fun s hs h9 => by
              rw [axn_a (by omega)] at h9
              have h13 := (rl_ar h2.1 (e_miS (miS_pu hMS)) hs z h9).1.1
              have := fx_tz (rl_fx h2.1) z (by omega)
              omega)
            have hx5 := rl_fx h5.1
            have fg5 : (ax_n (ax_u J (a + 184 + 2) 3 (σ (o + 29) 3 + (goM σ o).2.1)) z row) (a + 184 + 2) 2 = σ (o + 29) 2 := by rw [axn_a (by omega), eq_ 2 (by decide)]; exact fg1 2 (by omega) (by omega)
            refine x_putO (pc := 133) hC (pp_X11_133 kt4) dX11_place_133 (Or.inr ⟨_, rfl⟩) rfl (by decide) ?_
            refine x_aload_n (pc := 136) hC dX11_place_136 rfl ?_
            refine x_getO (pc := 137) hC gf_X11_210 dX11_place_137 (fx_cu hx4).2.1.1 (fx_cu hx5).2.1.2.2.2.1.1 ?_
            refine x_iconst (pc := 140) hC dX11_place_140 ?_
            refine x_dup2 (pc := 141) hC dX11_place_141 rfl rfl ?_
            refine x_iald (pc := 142) hC dX11_place_142 (fx_cu hx5).2.1.2.2.2.1.2.1 (by omega) (by rw [(fx_cu hx4).2.1.2.2.2.1.2.2]; omega) ?_
            refine x_iconst (pc := 143) hC dX11_place_143 ?_
            rw [fg5]
            refine x_iadd (pc := 144) hC dX11_place_144 ?_
            refine x_iast (pc := 145) hC dX11_place_145 (fx_cu hx5).2.1.2.2.2.1.2.1 (by omega) (by rw [(fx_cu hx4).2.1.2.2.2.1.2.2]; omega) ?_
            refine x_goto (pc := 146) hC 225 dX11_place_146 (by decide) ?_
            refine x_iconst (pc := 225) hC dX11_place_225 ?_
            refine x_iret (pc := 226) hC rfl dX11_place_226 ?_
            refine ⟨rfl, hfr1.tr ((fro_nw b1 b2).tr (fun q hq => ⟨rfl, rfl, axu_row (by omega), axu_row (by have := (rl_cc h.1 _ ct.1 ct.2).2.2.2.2.2.2.1; omega)⟩)), by omega, A, (fun c => if c = σ o 43 then z else w c), ?_⟩
            exact h5.fig (j := 2) (v := σ (o + 29) 2 + 1) (by omega)
      · refine x_aload_n (pc := 73) hC dX11_place_73 rfl ?_
        refine x_getO (pc := 74) hC gf_X11_36 dX11_place_74 (fx_ta hx) (fx_mg hx1).1 ?_
        refine x_aload_n (pc := 77) hC dX11_place_77 rfl ?_
        refine x_getO (pc := 78) hC gf_X11_279 dX11_place_78 (fx_cu hx).2.1.1 ktop1 ?_
        refine x_getO (pc := 81) hC (gp_X11_133 kt) dX11_place_81 rfl wt1 ?_
        refine x_mV (pc := 84) hC cv_X11_199 dX11_place_84 hre (fx_mg hx1).2.1 rfl (by decide) rfl rfl (Nat.le_of_ble_eq_true rfl) ?_
        dsimp only [Option.toList, List.cons_append, List.nil_append]
        refine x_ifB_eq (pc := 87) hC 103 dX11_place_87 (by decide) (fun b87 => ?_) (fun b87 => ?_)
        · refine x_aload_n (pc := 103) hC dX11_place_103 rfl ?_
          refine x_kind (pc := 104) hC kx dX11_place_104 (by decide) rfl (Nat.le_of_ble_eq_true rfl) ?_
          rw [hkd]
          refine x_iconst (pc := 107) hC dX11_place_107 ?_
          refine x_icmp_ne (pc := 108) hC 149 dX11_place_108 (by decide) hkr (by omega) (fun b108 => ?_) (fun b108 => ?_)
          · have hno : ¬ (σ (o + 1) (goX σ o) = 0 ∧ rowL σ o (σ o 43) = (goM σ o).1) := fun h9 => by
              first
              | exact b87 h9.2.symm
              | exact b70 h9.1
            have hno2 : ¬ (σ (o + 1) (goX σ o) = 2 ∧ σ o 44 ≤ σ o 43) := fun h9 => by
              first
              | exact b108 h9.1
              | exact absurd h9.2 (by rw [inj (Option.some.inj b119)]; exact Int.not_le.mpr hOM)
            rw [if_neg hno, if_neg hno2]
            refine x_aload_n (pc := 149) hC dX11_place_149 rfl ?_
            refine x_getO (pc := 150) hC gf_X11_393 dX11_place_150 (fx_cu hx).2.1.1 (fx_cu hx1).2.2 ?_
            refine x_ifnonnull (pc := 153) hC 193 dX11_place_153 (by decide) (fun _ h => by cases h) (fun _ => ?_)
            refine x_aload_n (pc := 156) hC dX11_place_156 rfl ?_
            refine x_aload_n (pc := 157) hC dX11_place_157 rfl ?_
            refine x_aload_n (pc := 158) hC dX11_place_158 rfl ?_
            refine x_kind (pc := 159) hC kx dX11_place_159 (by decide) rfl (Nat.le_of_ble_eq_true rfl) ?_
            rw [hkd]
            refine x_aload_n (pc := 162) hC dX11_place_162 rfl ?_
            refine x_getO (pc := 163) hC gf_X11_279 dX11_place_163 (fx_cu hx).2.1.1 ktop1 ?_
            refine x_aload_n (pc := 166) hC dX11_place_166 rfl ?_
            refine x_getO (pc := 167) hC gf_X11_36 dX11_place_167 (fx_ta hx) (fx_mg hx1).1 ?_
            refine x_callV (pc := 170) hC cv_X11_195 dX11_place_170 (c_copyResult (fx_mg hx1).2 x1' m1 (by omega) (by omega)) (fx_mg hx1).2.1 rfl (by decide) (by omega) (by omega) rfl rfl (Nat.le_of_ble_eq_true rfl) (fun _ _ _ _ _ _ hq => ?_)
            obtain ⟨rfl, rfl, rfl, rfl, rfl, row, rfl, hrow⟩ := hq
            dsimp only [Option.toList, List.cons_append, List.nil_append]
            have h3 : Mid G (ax_n T z 13) (ax_n N z ((goM σ o).1.length : Int)) (ax_n (ax_u J (a + 184 + 2) 3 (σ (o + 29) 3 + (goM σ o).2.1)) z row) (ax_n S z (fun _ => none)) (z + 1) a o (puA σ o (goM σ o).2.1) A w e := h2.nw
            have hx3 := rl_fx h3.1
            have kt3 : pT (ax_n T z 13 (A (σ o 43))) := (rl_wo h3.1 ct2.1 ct2.2).2.2.2.1
            have kx3 : pT (ax_n T z 13 (A (goX σ o))) := by rw [axn_a (by have := fx_tz hx (A (goX σ o)) (by rcases kx with e9 | e9 | e9 <;> omega); omega)]; exact kx
            refine x_aload_n (pc := 173) hC dX11_place_173 rfl ?_
            refine x_callV (pc := 174) hC cv_X11_116 dX11_place_174 (c_makeCommit hx3 (k := σ (o + 1) (goX σ o)) (p := some (A (σ o 43))) (r := some z) (q := some (A (goX σ o))) (by omega) (by rw [axn_a (show a ≠ z by omega), axu_a (show a ≠ a + 184 + 2 by omega)]; have := rl_n h1.1; rw [m0] at this; omega)) (fx_ta hx3) rfl (by decide) (by omega) (by omega) rfl rfl (Nat.le_of_ble_eq_true rfl) (fun _ _ _ _ _ _ hq => ?_)
            obtain ⟨rfl, rfl, rfl, rfl, rfl, rfl⟩ := hq
            dsimp only [Option.toList, List.cons_append, List.nil_append]
            have p2_ : puA σ o (goM σ o).2.1 o 2 = σ o 2 := by unfold puA; rw [axu_a (by omega)]
            have h4 := h3.made g2 (miS_pu hMS) (k := σ (o + 1) (goX σ o)) (p := σ o 43) (g := goX σ o) (r := z) (L := (goM σ o).1) (by rw [p2_]; exact hm) (by omega) (by rw [p2_]; exact gt) (by rw [p2_]; exact ⟨Int.le_of_lt gx.1, gx.2⟩) (by
              unfold rwS
              rw [axn_s, axn_s, axn_s]
              refine ⟨rfl, by omega, fun j j0 j1 => m2 _ ?_⟩
              rw [← hrow]
              exact seg_mem.mpr ⟨j, j0, j1, rfl⟩) ⟨axn_s, by rw [axn_s]; exact hrow⟩ (by omega) (by omega) (fun s hs h9 => by
              rw [axn_a (by omega)] at h9
              have h13 := (rl_ar h2.1 (e_miS (miS_pu hMS)) hs z h9).1.1
              have := fx_tz (rl_fx h2.1) z (by omega)
              omega)
            rw [p2_] at h4
            have hx4 := rl_fx h4.1
            have kx4 : pT (ax_n (ax_n T z 13) (z + 1) (tgK (σ (o + 1) (goX σ o))) (A (goX σ o))) := by
              have := fx_tz hx (A (goX σ o)) (by rcases kx with e9 | e9 | e9 <;> omega)
              rw [axn_a (by omega), axn_a (by omega)]; exact kx
            have h5 := h4.top (t := σ o 2)
            simp only [if_true] at h5
            have hx6 := rl_fx h5.1
            have fg5 : (mkI (ax_n (ax_u J (a + 184 + 2) 3 (σ (o + 29) 3 + (goM σ o).2.1)) z row) (z + 1) a (σ (o + 1) (goX σ o)) (some (A (goX σ o)))) (a + 184 + 2) 0 = σ (o + 29) 0 := by rw [mkI_o (by omega) (by omega) (by omega), axn_a (by omega), eq_ 0 (by decide)]; exact fg1 0 (by omega) (by omega)
            refine x_putO (pc := 177) hC pf_X11_279 dX11_place_177 (Or.inl ⟨_, rfl⟩) (fx_cu hx4).2.1.1 (by decide) ?_
            refine x_aload_n (pc := 180) hC dX11_place_180 rfl ?_
            refine x_getO (pc := 181) hC gf_X11_210 dX11_place_181 (fx_cu hx4).2.1.1 (fx_cu hx6).2.1.2.2.2.1.1 ?_
            refine x_iconst (pc := 184) hC dX11_place_184 ?_
            refine x_dup2 (pc := 185) hC dX11_place_185 rfl rfl ?_
            refine x_iald (pc := 186) hC dX11_place_186 (fx_cu hx6).2.1.2.2.2.1.2.1 (by omega) (by rw [(fx_cu hx4).2.1.2.2.2.1.2.2]; omega) ?_
            refine x_iconst (pc := 187) hC dX11_place_187 ?_
            rw [fg5]
            refine x_iadd (pc := 188) hC dX11_place_188 ?_
            refine x_iast (pc := 189) hC dX11_place_189 (fx_cu hx6).2.1.2.2.2.1.2.1 (by omega) (by rw [(fx_cu hx4).2.1.2.2.2.1.2.2]; omega) ?_
            refine x_goto (pc := 190) hC 225 dX11_place_190 (by decide) ?_
            refine x_iconst (pc := 225) hC dX11_place_225 ?_
            refine x_iret (pc := 226) hC rfl dX11_place_226 ?_
            refine ⟨rfl, hfr1.tr ((fro_nw b1 b2).tr ((fro_md b1 (by omega)).tr (fun q hq => ⟨rfl, rfl, axu_row (by omega), axu_row (by omega)⟩))), by omega, (fun c => if c = σ o 2 then z + 1 else A c), (fun c => if c = σ o 2 then z else w c), ?_⟩
            have h6 := h5.fig (j := 0) (v := σ (o + 29) 0 + 1) (by omega)
            rw [← lay_43] at h6
            exact h6
          · refine x_aload_n (pc := 111) hC dX11_place_111 rfl ?_
            refine x_getO (pc := 112) hC gf_X11_279 dX11_place_112 (fx_cu hx).2.1.1 ktop1 ?_
            refine x_aload_n (pc := 115) hC dX11_place_115 rfl ?_
            refine x_getO (pc := 116) hC gf_X11_390 dX11_place_116 (fx_cu hx).2.1.1 konto1 ?_
            refine x_acmp_eq (pc := 119) hC 149 dX11_place_119 (by decide) (fun b119 => ?_) (fun b119 => ?_)
            · have hno : ¬ (σ (o + 1) (goX σ o) = 0 ∧ rowL σ o (σ o 43) = (goM σ o).1) := fun h9 => by
                first
                | exact b87 h9.2.symm
                | exact b70 h9.1
              have hno2 : ¬ (σ (o + 1) (goX σ o) = 2 ∧ σ o 44 ≤ σ o 43) := fun h9 => by
                first
                | exact b108 h9.1
                | exact absurd h9.2 (by rw [inj (Option.some.inj b119)]; exact Int.not_le.mpr hOM)
              rw [if_neg hno, if_neg hno2]
              refine x_aload_n (pc := 149) hC dX11_place_149 rfl ?_
              refine x_getO (pc := 150) hC gf_X11_393 dX11_place_150 (fx_cu hx).2.1.1 (fx_cu hx1).2.2 ?_
              refine x_ifnonnull (pc := 153) hC 193 dX11_place_153 (by decide) (fun _ h => by cases h) (fun _ => ?_)
              refine x_aload_n (pc := 156) hC dX11_place_156 rfl ?_
              refine x_aload_n (pc := 157) hC dX11_place_157 rfl ?_
              refine x_aload_n (pc := 158) hC dX11_place_158 rfl ?_
              refine x_kind (pc := 159) hC kx dX11_place_159 (by decide) rfl (Nat.le_of_ble_eq_true rfl) ?_
              rw [hkd]
              refine x_aload_n (pc := 162) hC dX11_place_162 rfl ?_
              refine x_getO (pc := 163) hC gf_X11_279 dX11_place_163 (fx_cu hx).2.1.1 ktop1 ?_
              refine x_aload_n (pc := 166) hC dX11_place_166 rfl ?_
              refine x_getO (pc := 167) hC gf_X11_36 dX11_place_167 (fx_ta hx) (fx_mg hx1).1 ?_
              refine x_callV (pc := 170) hC cv_X11_195 dX11_place_170 (c_copyResult (fx_mg hx1).2 x1' m1 (by omega) (by omega)) (fx_mg hx1).2.1 rfl (by decide) (by omega) (by omega) rfl rfl (Nat.le_of_ble_eq_true rfl) (fun _ _ _ _ _ _ hq => ?_)
              obtain ⟨rfl, rfl, rfl, rfl, rfl, row, rfl, hrow⟩ := hq
              dsimp only [Option.toList, List.cons_append, List.nil_append]
              have h3 : Mid G (ax_n T z 13) (ax_n N z ((goM σ o).1.length : Int)) (ax_n (ax_u J (a + 184 + 2) 3 (σ (o + 29) 3 + (goM σ o).2.1)) z row) (ax_n S z (fun _ => none)) (z + 1) a o (puA σ o (goM σ o).2.1) A w e := h2.nw
              have hx3 := rl_fx h3.1
              have kt3 : pT (ax_n T z 13 (A (σ o 43))) := (rl_wo h3.1 ct2.1 ct2.2).2.2.2.1
              have kx3 : pT (ax_n T z 13 (A (goX σ o))) := by rw [axn_a (by have := fx_tz hx (A (goX σ o)) (by rcases kx with e9 | e9 | e9 <;> omega); omega)]; exact kx
              refine x_aload_n (pc := 173) hC dX11_place_173 rfl ?_
              refine x_callV (pc := 174) hC cv_X11_116 dX11_place_174 (c_makeCommit hx3 (k := σ (o + 1) (goX σ o)) (p := some (A (σ o 43))) (r := some z) (q := some (A (goX σ o))) (by omega) (by rw [axn_a (show a ≠ z by omega), axu_a (show a ≠ a + 184 + 2 by omega)]; have := rl_n h1.1; rw [m0] at this; omega)) (fx_ta hx3) rfl (by decide) (by omega) (by omega) rfl rfl (Nat.le_of_ble_eq_true rfl) (fun _ _ _ _ _ _ hq => ?_)
              obtain ⟨rfl, rfl, rfl, rfl, rfl, rfl⟩ := hq
              dsimp only [Option.toList, List.cons_append, List.nil_append]
              have p2_ : puA σ o (goM σ o).2.1 o 2 = σ o 2 := by unfold puA; rw [axu_a (by omega)]
              have h4 := h3.made g2 (miS_pu hMS) (k := σ (o + 1) (goX σ o)) (p := σ o 43) (g := goX σ o) (r := z) (L := (goM σ o).1) (by rw [p2_]; exact hm) (by omega) (by rw [p2_]; exact gt) (by rw [p2_]; exact ⟨Int.le_of_lt gx.1, gx.2⟩) (by
                unfold rwS
                rw [axn_s, axn_s, axn_s]
                refine ⟨rfl, by omega, fun j j0 j1 => m2 _ ?_⟩
                rw [← hrow]
                exact seg_mem.mpr ⟨j, j0, j1, rfl⟩) ⟨axn_s, by rw [axn_s]; exact hrow⟩ (by omega) (by omega) (fun s hs h9 => by
                rw [axn_a (by omega)] at h9
                have h13 := (rl_ar h2.1 (e_miS (miS_pu hMS)) hs z h9).1.1
                have := fx_tz (rl_fx h2.1) z (by omega)
                omega)
              rw [p2_] at h4
              have hx4 := rl_fx h4.1
              have kx4 : pT (ax_n (ax_n T z 13) (z + 1) (tgK (σ (o + 1) (goX σ o))) (A (goX σ o))) := by
                have := fx_tz hx (A (goX σ o)) (by rcases kx with e9 | e9 | e9 <;> omega)
                rw [axn_a (by omega), axn_a (by omega)]; exact kx
              have h5 := h4.top (t := σ o 2)
              simp only [if_true] at h5
              have hx6 := rl_fx h5.1
              have fg5 : (mkI (ax_n (ax_u J (a + 184 + 2) 3 (σ (o + 29) 3 + (goM σ o).2.1)) z row) (z + 1) a (σ (o + 1) (goX σ o)) (some (A (goX σ o)))) (a + 184 + 2) 0 = σ (o + 29) 0 := by rw [mkI_o (by omega) (by omega) (by omega), axn_a (by omega), eq_ 0 (by decide)]; exact fg1 0 (by omega) (by omega)
              refine x_putO (pc := 177) hC pf_X11_279 dX11_place_177 (Or.inl ⟨_, rfl⟩) (fx_cu hx4).2.1.1 (by decide) ?_
              refine x_aload_n (pc := 180) hC dX11_place_180 rfl ?_
              refine x_getO (pc := 181) hC gf_X11_210 dX11_place_181 (fx_cu hx4).2.1.1 (fx_cu hx6).2.1.2.2.2.1.1 ?_
              refine x_iconst (pc := 184) hC dX11_place_184 ?_
              refine x_dup2 (pc := 185) hC dX11_place_185 rfl rfl ?_
              refine x_iald (pc := 186) hC dX11_place_186 (fx_cu hx6).2.1.2.2.2.1.2.1 (by omega) (by rw [(fx_cu hx4).2.1.2.2.2.1.2.2]; omega) ?_
              refine x_iconst (pc := 187) hC dX11_place_187 ?_
              rw [fg5]
              refine x_iadd (pc := 188) hC dX11_place_188 ?_
              refine x_iast (pc := 189) hC dX11_place_189 (fx_cu hx6).2.1.2.2.2.1.2.1 (by omega) (by rw [(fx_cu hx4).2.1.2.2.2.1.2.2]; omega) ?_
              refine x_goto (pc := 190) hC 225 dX11_place_190 (by decide) ?_
              refine x_iconst (pc := 225) hC dX11_place_225 ?_
              refine x_iret (pc := 226) hC rfl dX11_place_226 ?_
              refine ⟨rfl, hfr1.tr ((fro_nw b1 b2).tr ((fro_md b1 (by omega)).tr (fun q hq => ⟨rfl, rfl, axu_row (by omega), axu_row (by omega)⟩))), by omega, (fun c => if c = σ o 2 then z + 1 else A c), (fun c => if c = σ o 2 then z else w c), ?_⟩
              have h6 := h5.fig (j := 0) (v := σ (o + 29) 0 + 1) (by omega)
              rw [← lay_43] at h6
              exact h6
            · have hk2 : σ (o + 1) (goX σ o) = 2 := by
                first
                | exact b108
                | exact Decidable.of_not_not b108
              have hno : ¬ (σ (o + 1) (goX σ o) = 0 ∧ rowL σ o (σ o 43) = (goM σ o).1) := fun h9 => by rw [hk2] at h9; exact absurd h9.1 (by decide)
              rw [if_neg hno, if_pos ⟨hk2, hTO.resolve_left (fun h9 => b119 (by rw [h9]))⟩]
              refine x_aload_n (pc := 122) hC dX11_place_122 rfl ?_
              refine x_getO (pc := 123) hC gf_X11_279 dX11_place_123 (fx_cu hx).2.1.1 ktop1 ?_
              refine x_aload_n (pc := 126) hC dX11_place_126 rfl ?_
              refine x_getO (pc := 127) hC gf_X11_36 dX11_place_127 (fx_ta hx) (fx_mg hx1).1 ?_
              refine x_callV (pc := 130) hC cv_X11_195 dX11_place_130 (c_copyResult (fx_mg hx1).2 x1' m1 (by omega) (by omega)) (fx_mg hx1).2.1 rfl (by decide) (by omega) (by omega) rfl rfl (Nat.le_of_ble_eq_true rfl) (fun _ _ _ _ _ _ hq => ?_)
              obtain ⟨rfl, rfl, rfl, rfl, rfl, row, rfl, hrow⟩ := hq
              dsimp only [Option.toList, List.cons_append, List.nil_append]
              have h4 : Mid G (ax_n T z 13) (ax_n N z ((goM σ o).1.length : Int)) (ax_n (ax_u J (a + 184 + 2) 3 (σ (o + 29) 3 + (goM σ o).2.1)) z row) (ax_n S z (fun _ => none)) (z + 1) a o (puA σ o (goM σ o).2.1) A w e := h2.nw
              have hx4 := rl_fx h4.1
              have kt4 : pT (ax_n T z 13 (A (σ o 43))) := (rl_wo h4.1 ct2.1 ct2.2).2.2.2.1
              have kx4 : pT (ax_n T z 13 (A (goX σ o))) := by rw [axn_a (by have := fx_tz hx (A (goX σ o)) (by rcases kx with e9 | e9 | e9 <;> omega); omega)]; exact kx
              have gt2 : 0 ≤ σ o 43 ∧ σ o 43 < puA σ o (goM σ o).2.1 o 2 := by unfold puA; rw [axu_a (by omega)]; exact gt
              have h5 := h4.melt g2 (t := σ o 43) (r := z) (L := (goM σ o).1) gt2 (by
                unfold rwS
                rw [axn_s, axn_s, axn_s]
                refine ⟨rfl, by omega, fun j j0 j1 => m2 _ ?_⟩
                rw [← hrow]
                exact seg_mem.mpr ⟨j, j0, j1, rfl⟩) ⟨axn_s, by rw [axn_s]; exact hrow⟩ (by omega) (by omega) (fun s hs h9 => by
                rw [axn_a (by omega)] at h9
                have h13 := (rl_ar h2.1 (e_miS (miS_pu hMS)) hs z h9).1.1
                have := fx_tz (rl_fx h2.1) z (by omega)
                omega)
              have hx5 := rl_fx h5.1
              have fg5 : (ax_n (ax_u J (a + 184 + 2) 3 (σ (o + 29) 3 + (goM σ o).2.1)) z row) (a + 184 + 2) 2 = σ (o + 29) 2 := by rw [axn_a (by omega), eq_ 2 (by decide)]; exact fg1 2 (by omega) (by omega)
              refine x_putO (pc := 133) hC (pp_X11_133 kt4) dX11_place_133 (Or.inr ⟨_, rfl⟩) rfl (by decide) ?_
              refine x_aload_n (pc := 136) hC dX11_place_136 rfl ?_
              refine x_getO (pc := 137) hC gf_X11_210 dX11_place_137 (fx_cu hx4).2.1.1 (fx_cu hx5).2.1.2.2.2.1.1 ?_
              refine x_iconst (pc := 140) hC dX11_place_140 ?_
              refine x_dup2 (pc := 141) hC dX11_place_141 rfl rfl ?_
              refine x_iald (pc := 142) hC dX11_place_142 (fx_cu hx5).2.1.2.2.2.1.2.1 (by omega) (by rw [(fx_cu hx4).2.1.2.2.2.1.2.2]; omega) ?_
              refine x_iconst (pc := 143) hC dX11_place_143 ?_
              rw [fg5]
              refine x_iadd (pc := 144) hC dX11_place_144 ?_
              refine x_iast (pc := 145) hC dX11_place_145 (fx_cu hx5).2.1.2.2.2.1.2.1 (by omega) (by rw [(fx_cu hx4).2.1.2.2.2.1.2.2]; omega) ?_
              refine x_goto (pc := 146) hC 225 dX11_place_146 (by decide) ?_
              refine x_iconst (pc := 225) hC dX11_place_225 ?_
              refine x_iret (pc := 226) hC rfl dX11_place_226 ?_
              refine ⟨rfl, hfr1.tr ((fro_nw b1 b2).tr (fun q hq => ⟨rfl, rfl, axu_row (by omega), axu_row (by have := (rl_cc h.1 _ ct.1 ct.2).2.2.2.2.2.2.1; omega)⟩)), by omega, A, (fun c => if c = σ o 43 then z else w c), ?_⟩
              exact h5.fig (j := 2) (v := σ (o + 29) 2 + 1) (by omega)
        · refine x_aload_n (pc := 90) hC dX11_place_90 rfl ?_
          refine x_getO (pc := 91) hC gf_X11_210 dX11_place_91 (fx_cu hx).2.1.1 (fx_cu hx1).2.1.2.2.2.1.1 ?_
          refine x_iconst (pc := 94) hC dX11_place_94 ?_
          refine x_dup2 (pc := 95) hC dX11_place_95 rfl rfl ?_
          refine x_iald (pc := 96) hC dX11_place_96 (fx_cu hx1).2.1.2.2.2.1.2.1 (by omega) (by rw [(fx_cu hx1).2.1.2.2.2.1.2.2]; omega) ?_
          refine x_iconst (pc := 97) hC dX11_place_97 ?_
          rw [eq_ 1 (by decide), fg1 1 (by omega) (by omega)]
          refine x_iadd (pc := 98) hC dX11_place_98 ?_
          refine x_iast (pc := 99) hC dX11_place_99 (fx_cu hx1).2.1.2.2.2.1.2.1 (by omega) (by rw [(fx_cu hx1).2.1.2.2.2.1.2.2]; omega) ?_
          refine x_goto (pc := 100) hC 225 dX11_place_100 (by decide) ?_
          refine x_iconst (pc := 225) hC dX11_place_225 ?_
          refine x_iret (pc := 226) hC rfl dX11_place_226 ?_
          rw [if_pos ⟨by assumption, b87.symm⟩]
          refine ⟨rfl, hfr1.tr (fun q hq => ⟨rfl, rfl, axu_row (by omega), rfl⟩), Nat.le_refl _, A, w, ?_⟩
          exact h2.fig (j := 1) (v := σ (o + 29) 1 + 1) (by omega)
    · refine x_iconst (pc := 48) hC dX11_place_48 ?_
      refine x_iret (pc := 49) hC rfl dX11_place_49 ?_
      have hst : stp (goM σ o) = 2 := by unfold stp; rw [if_neg (by omega), if_pos (by omega)]
      rw [hst, if_neg (by decide)]
      exact ⟨rfl, fro_sc s1 b1, Nat.le_refl _, A, w, h1⟩
  · refine x_iconst (pc := 34) hC dX11_place_34 ?_
    refine x_iret (pc := 35) hC rfl dX11_place_35 ?_
    have hst : stp (goM σ o) = 1 := by unfold stp; rw [if_pos (by omega)]
    rw [hst, if_neg (by decide)]
    exact ⟨rfl, fro_sc s1 b1, Nat.le_refl _, A, w, h1⟩

