/-! THE CLASS: the merging of a stopped replay -/
theorem mgStep_mem {rs : List (List Int × List Int)} {a b t : Int → Int} {na : Int} {g : Gp} : ∀ (l : List Gp) (s : List Int × Int × List Gp), g ∈ (l.foldl (mgStep rs a b t na) s).2.2 → g ∈ s.2.2 ∨ g ∈ l := by
  intro l
  induction l with
  | nil => intro s h; exact Or.inl h
  | cons x l ih =>
    intro s h
    rcases ih (mgStep rs a b t na s x) h with h1 | h1
    · simp only [mgStep] at h1
      split at h1
      · rcases List.mem_append.mp h1 with h2 | h2
        · exact Or.inl h2
        · right; simp at h2; simp [h2]
      · exact Or.inl h1
    · exact Or.inr (by simp [h1])
theorem mrgL_in {rs : List (List Int × List Int)} {A B C : List Int} {g : Gp} (h : g ∈ (mrgL rs A B C).2.2) : gIn A.length B.length C.length g := by
  unfold mrgL mrg at h
  rcases mgStep_mem _ _ h with h1 | h1
  · simp at h1
  · exact gapsL_in (na := (A.length : Int)) (fun k => mtP_in _ _ (by omega) k) (fun k => mtP_in _ _ (by omega) k) _ _ _ _ _ (Int.le_refl _) (by omega) (Int.le_refl _) (Int.le_refl _) (Int.le_refl _) g h1
theorem rl_seg {G : ax_G} {T : Nat → Nat} {N : Nat → Int} {I : Nat → Int → Int} {R : Nat → Int → Option Nat} {z a o : Nat} {σ : Nat → Int → Int} {A w : Int → Nat} (h : RelA G T N I R z a o σ A w) {c i e : Int} (h0 : 0 ≤ c) (h1 : c < σ o 2) (h2 : 0 ≤ i) (h3 : e ≤ σ (o + 6) c) : seg (I (w c)) i e = seg (rwI σ o c) i e := seg_congr (fun k a1 a2 => rl_line h h0 h1 (by omega) (by omega))
theorem sc_fs {T : Nat → Nat} {N : Nat → Int} {I J : Nat → Int → Int} {R S : Nat → Int → Option Nat} {a s : Nat} (h1 : ∀ q, q < a + 5 + 87 ∨ a + 5 + 93 ≤ q → J q = I q) (h2 : S = ax_u R (a + 5) 16 (some s)) : scK T N a I J R S := by
  have e : ∀ q, q ≠ a + 5 → S q = R q := fun q hq => by rw [h2]; exact axu_row hq
  exact ⟨fun q hq => ⟨h1 q (by omega), e q (by omega)⟩, ⟨by rw [h1 (a + 5) (by omega)], e _ (by omega)⟩, fun k => mgT_fr k ⟨fun q a1 _ => e q a1, fun j hj => by rw [h2]; exact axu_j hj⟩, fun k => mtT_fr k (fun q a1 a2 => e q (by omega)), fun k => mtT_fr k (fun q a1 a2 => e q (by omega)), fun k => rpT_fr k (fun j _ _ => by rw [e (a + 189) (by omega)]), by rw [e (a + 189) (by omega)]⟩

theorem goX_in {σ : Nat → Int → Int} {o : Nat} (hS : rpS σ o) (h40 : σ o 40 ≠ 0) : (0 < goX σ o ∧ goX σ o < σ o 2) ∧ (0 ≤ σ o 43 ∧ σ o 43 < σ o 2) ∧ (0 ≤ σ o 47 ∧ σ o 47 < σ o 46 ∧ σ o 46 ≤ 24) := by
  obtain ⟨h1, h2⟩ := hS.2 h40
  have := h1.2.1 (σ o 47) h1.1.1 h2.1
  exact ⟨this, h1.2.2.1, h1.1.1, h2.1, h1.1.2.2⟩
theorem rl_work {G : ax_G} {T : Nat → Nat} {N : Nat → Int} {I : Nat → Int → Int} {R : Nat → Int → Option Nat} {z a o : Nat} {σ : Nat → Int → Int} {A w : Int → Nat} (h : RelA G T N I R z a o σ A w) (hS : rpS σ o) (h40 : σ o 40 ≠ 0) : axE G YX6_commitAtWork 0 [vR (a + 183)] T N I R z (some (vR (A (goX σ o)))) I := by
  obtain ⟨-, -, g3, g4, g5⟩ := goX_in hS h40
  obtain ⟨⟨-, k5, -⟩, -, kw, -⟩ := rl_rp h h40
  have := c_commitAtWork (G := G) (T := T) (N := N) (I := I) (R := R) (z := z) (fx_cu (rl_fx h)).2.1 (by rw [k5]; constructor <;> omega)
  rw [if_pos (by omega), k5, kw _ (by omega) (by omega), show σ o 46 - 1 - (σ o 46 - 1 - σ o 47) = σ o 47 by omega] at this
  exact this

set_option maxHeartbeats 4000000 in
set_option maxRecDepth 100000 in
theorem c_mergeAtStop {G : ax_G} {T : Nat → Nat} {N : Nat → Int} {I : Nat → Int → Int} {R : Nat → Int → Option Nat} {z a o : Nat} {σ : Nat → Int → Int} {A w : Int → Nat} (h : RelA G T N I R z a o σ A w) (hI : miC σ o) (hR : miR σ o) (hS : rpS σ o) {wd : Int} (rw_ : ax_r wd) : axR G YX11_mergeAtStop 4 [vR a, vI wd] T N I R z (fun r1 I1 R1 => (σ o 40 = 0 ∧ r1 = some (vI 0) ∧ I1 = I ∧ R1 = R) ∨ (σ o 40 ≠ 0 ∧ r1 = some (vI 1) ∧ mgV I I1 R R1 (a + 5) (w (σ (o + 2) (goX σ o))) (w (σ o 43)) (w (goX σ o)) wd (goM σ o) ∧ ((goM σ o).1.length ≤ 150 ∧ isLn (goM σ o).1) ∧ (goM σ o).2.2.length ≤ 17 ∧ ∀ q ∈ (goM σ o).2.2, gOk q)) := by
  refine ax_enter (by decide) (Nat.le_of_ble_eq_true rfl) (ax_cat rfl) (fun f hC => ?_)
  show axX G f 0 0 _ 0 [vR a, vI wd, vU] [] T N I R z 0 0
  have hx := rl_fx h
  have h8 := rl_st h
  have hs2 := hS.1
  have hu := c_isUnderWay (G := G) (I := I) hx (by rw [h8]; constructor <;> omega)
  by_cases h40 : σ o 40 = 0
  · rw [bI_f (show ¬ (I (a + 183) 8 ≠ 0) by rw [h8, h40]; decide)] at hu
    refine x_aload_n (pc := 0) hC dX11_mergeAtStop_0 rfl ?_
    refine x_mV (pc := 1) hC cv_X11_89 dX11_mergeAtStop_1 hu (fx_ta hx) rfl (by decide) rfl rfl (Nat.le_of_ble_eq_true rfl) ?_
    dsimp only [Option.toList, List.cons_append, List.nil_append]
    refine x_if_ne (pc := 4) hC 9 dX11_mergeAtStop_4 (by decide) (by decide) (fun h => absurd rfl h) (fun _ => ?_)
    refine x_iconst (pc := 7) hC dX11_mergeAtStop_7 ?_
    refine x_zret (pc := 8) hC rfl dX11_mergeAtStop_8 (Or.inl rfl) ?_
    exact ⟨Or.inl ⟨h40, rfl, rfl, rfl⟩, rfl, rfl, rfl⟩
  · rw [bI_t (show I (a + 183) 8 ≠ 0 by rw [h8]; exact h40)] at hu
    obtain ⟨gx, gt, -⟩ := goX_in hS h40
    have wx := rl_wo h (by omega) gx.2
    have wt := rl_wo h gt.1 gt.2
    have hpp := hI.2.2.1.2 _ gx.1 gx.2
    have wp := rl_wo h hpp.1 (by omega : σ (o + 2) (goX σ o) < σ o 2)
    have kx := wx.2.2.2.1
    have kt := wt.2.2.2.1
    have hpr := c_parentRow (G := G) (z := z) (rl_cs h) (c := goX σ o) ⟨by omega, gx.2⟩
    rw [show pwA w (σ (o + 2)) (goX σ o) = w (σ (o + 2) (goX σ o)) from if_neg (by omega)] at hpr
    have hmg := cl_mg (wd := wd) h hR rw_ wp.1 wt.1 wx.1 (rl_row h hpp.1 (by omega)).1 (rl_row h gt.1 gt.2).1 (rl_row h (by omega) gx.2).1 wp.2.1 wt.2.1 wx.2.1
    change axR G YX3_mergeRows 3 _ T N I R z (fun q1 I1 R1 => q1 = none ∧ mgV I I1 R R1 (a + 5) (w (σ (o + 2) (goX σ o))) (w (σ o 43)) (w (goX σ o)) wd (goM σ o) ∧ ((goM σ o).1.length ≤ 150 ∧ isLn (goM σ o).1) ∧ (goM σ o).2.2.length ≤ 17 ∧ ∀ q ∈ (goM σ o).2.2, gOk q) at hmg
    obtain ⟨-, ⟨-, ktop⟩, -⟩ := rl_rp h h40
    refine x_aload_n (pc := 0) hC dX11_mergeAtStop_0 rfl ?_
    refine x_mV (pc := 1) hC cv_X11_89 dX11_mergeAtStop_1 hu (fx_ta hx) rfl (by decide) rfl rfl (Nat.le_of_ble_eq_true rfl) ?_
    dsimp only [Option.toList, List.cons_append, List.nil_append]
    refine x_if_ne (pc := 4) hC 9 dX11_mergeAtStop_4 (by decide) (by decide) (fun _ => ?_) (fun h => absurd h (by decide))
    refine x_aload_n (pc := 9) hC dX11_mergeAtStop_9 rfl ?_
    refine x_getO (pc := 10) hC gf_X11_64 dX11_mergeAtStop_10 (fx_ta hx) (fx_cu hx).1 ?_
    refine x_mV (pc := 13) hC cv_X11_273 dX11_mergeAtStop_13 (rl_work h hS h40) (fx_cu hx).2.1.1 rfl (by decide) rfl rfl (Nat.le_of_ble_eq_true rfl) ?_
    dsimp only [Option.toList, List.cons_append, List.nil_append]
    refine x_astore_n (pc := 16) hC dX11_mergeAtStop_16 (Nat.le_of_ble_eq_true rfl) ?_
    dsimp only [List.set]
    refine x_aload_n (pc := 17) hC dX11_mergeAtStop_17 rfl ?_
    refine x_getO (pc := 18) hC gf_X11_36 dX11_mergeAtStop_18 (fx_ta hx) (fx_mg hx).1 ?_
    refine x_aload_n (pc := 21) hC dX11_mergeAtStop_21 rfl ?_
    refine x_mU (pc := 22) hC (cq_X11_387 kx) dX11_mergeAtStop_22 hpr rfl rfl (by decide) rfl rfl (Nat.le_of_ble_eq_true rfl) ?_
    dsimp only [Option.toList, List.cons_append, List.nil_append]
    refine x_aload_n (pc := 25) hC dX11_mergeAtStop_25 rfl ?_
    refine x_getO (pc := 26) hC gf_X11_64 dX11_mergeAtStop_26 (fx_ta hx) (fx_cu hx).1 ?_
    refine x_getO (pc := 29) hC gf_X11_279 dX11_mergeAtStop_29 (fx_cu hx).2.1.1 ktop ?_
    refine x_getO (pc := 32) hC (gp_X11_133 kt) dX11_mergeAtStop_32 rfl wt.2.2.1 ?_
    refine x_aload_n (pc := 35) hC dX11_mergeAtStop_35 rfl ?_
    refine x_getO (pc := 36) hC (gp_X11_133 kx) dX11_mergeAtStop_36 rfl wx.2.2.1 ?_
    refine x_iload_n (pc := 39) hC dX11_mergeAtStop_39 rfl ?_
    refine x_rV (pc := 40) hC cv_X11_187 dX11_mergeAtStop_40 hmg (fx_mg hx).2.1 rfl (by decide) rfl rfl (Nat.le_of_ble_eq_true rfl) ?_
    rintro v9 J S ⟨rfl, mV⟩
    dsimp only [Option.toList, List.nil_append]
    refine x_iconst (pc := 43) hC dX11_mergeAtStop_43 ?_
    refine x_zret (pc := 44) hC rfl dX11_mergeAtStop_44 (Or.inr rfl) ?_
    exact ⟨Or.inr ⟨h40, rfl, mV⟩, rfl, rfl, rfl⟩

set_option maxHeartbeats 4000000 in
set_option maxRecDepth 100000 in
theorem c_pickConflict {G : ax_G} {T : Nat → Nat} {N : Nat → Int} {I : Nat → Int → Int} {R : Nat → Int → Option Nat} {z a o : Nat} {σ : Nat → Int → Int} {A w : Int → Nat} (h : RelA G T N I R z a o σ A w) (hI : miC σ o) (hR : miR σ o) (hS : rpS σ o) {k : Int} (rk : ax_r k) : axR G YX11_pickConflict 5 [vR a, vI k] T N I R z (fun r1 I1 R1 => scK T N a I I1 R R1 ∧ ((¬ opP σ o k ∧ r1 = some (vI 0)) ∨ (opP σ o k ∧ r1 = some (vI 1) ∧ (ptS T N I1 R1 (a + 5 + 84) (cgB σ o k) ∧ ptS T N I1 R1 (a + 5 + 85) (cgO σ o k) ∧ ptS T N I1 R1 (a + 5 + 86) (cgT σ o k)) ∧ ((isLn (cgB σ o k) ∧ (cgB σ o k).length ≤ 16) ∧ (isLn (cgO σ o k) ∧ (cgO σ o k).length ≤ 16) ∧ isLn (cgT σ o k) ∧ (cgT σ o k).length ≤ 16) ∧ (shS I1 (a + 5 + 87) (shpSeq (cgB σ o k) (cgO σ o k) (cgT σ o k)) ∧ shS I1 (a + 5 + 90) (shpSeq (cgB σ o k) (cgT σ o k) (cgO σ o k))) ∧ R1 (a + 5) 16 = some (if lxF (shpSeq (cgB σ o k) (cgO σ o k) (cgT σ o k)).1 (shpSeq (cgB σ o k) (cgT σ o k) (cgO σ o k)).1 = 1 then a + 5 + 90 else a + 5 + 87)))) := by
  refine ax_enter (by decide) (Nat.le_of_ble_eq_true rfl) (ax_cat rfl) (fun f hC => ?_)
  show axX G f 0 0 _ 0 [vR a, vI k] [] T N I R z 0 0
  have hx := rl_fx h
  have b0 := fx_b0 hx
  have b1 := fx_b1 hx
  have hnl := (fx_nl hx).2
  refine x_iload_n (pc := 0) hC dX11_pickConflict_0 rfl ?_
  refine x_if_lt (pc := 1) hC 23 dX11_pickConflict_1 (by decide) (by omega) (fun b1 => ?_) (fun b1 => ?_)
  · refine x_iconst (pc := 23) hC dX11_pickConflict_23 ?_
    refine x_zret (pc := 24) hC rfl dX11_pickConflict_24 (Or.inl rfl) ?_
    exact ⟨⟨scK.rf, Or.inl ⟨fun h9 => by have := h9.2.1; omega, rfl⟩⟩, rfl, rfl, rfl⟩
  · refine x_aload_n (pc := 4) hC dX11_pickConflict_4 rfl ?_
    refine x_iload_n (pc := 5) hC dX11_pickConflict_5 rfl ?_
    refine x_rV (pc := 6) hC cv_X11_276 dX11_pickConflict_6 (c_mergeAtStop h hI hR hS rk) (fx_ta hx) rfl (by decide) rfl rfl (Nat.le_of_ble_eq_true rfl) ?_
    rintro v9 J S hq
    rcases hq with ⟨h40, rfl, rfl, rfl⟩ | ⟨h40, rfl, mV, ⟨m1, m2⟩, m3, m4⟩
    · dsimp only [Option.toList, List.cons_append, List.nil_append]
      refine x_if_eq (pc := 9) hC 23 dX11_pickConflict_9 (by decide) (by decide) (fun _ => ?_) (fun h => absurd rfl h)
      refine x_iconst (pc := 23) hC dX11_pickConflict_23 ?_
      refine x_zret (pc := 24) hC rfl dX11_pickConflict_24 (Or.inl rfl) ?_
      exact ⟨⟨scK.rf, Or.inl ⟨fun h9 => h9.1 h40, rfl⟩⟩, rfl, rfl, rfl⟩
    · dsimp only [Option.toList, List.cons_append, List.nil_append]
      have s1 : scK T N a I J R S := sc_mg mV
      have h1 := rl_sc h s1
      have hx1 := rl_fx h1
      obtain ⟨-, ⟨x1, x2, x3⟩, xp⟩ := mV
      refine x_if_eq (pc := 9) hC 23 dX11_pickConflict_9 (by decide) (by decide) (fun h => absurd h (by decide)) (fun _ => ?_)
      refine x_iload_n (pc := 12) hC dX11_pickConflict_12 rfl ?_
      refine x_aload_n (pc := 13) hC dX11_pickConflict_13 rfl ?_
      refine x_getO (pc := 14) hC gf_X11_36 dX11_pickConflict_14 (fx_ta hx) (fx_mg hx1).1 ?_
      refine x_getI (pc := 17) hC gf_X11_219 dX11_pickConflict_17 (fx_mg hx1).2.1 ?_
      rw [x3]
      refine x_icmp_lt (pc := 20) hC 25 dX11_pickConflict_20 (by decide) (by omega) (by omega) (fun b20 => ?_) (fun b20 => ?_)
      · have hop : opP σ o k := ⟨h40, by omega, by omega⟩
        obtain ⟨gp, hgp⟩ : ∃ gp, (goM σ o).2.2[k.toNat]? = some gp := ⟨_, List.getElem?_eq_getElem (by omega)⟩
        have hgd : cgG σ o k = gp := by unfold cgG; rw [List.getD_eq_getElem?_getD, hgp]; rfl
        have hmem := List.mem_of_getElem? hgp
        obtain ⟨y1, y2, y3⟩ := xp gp (by omega) hgp
        obtain ⟨gx, gt, -⟩ := goX_in hS h40
        have hpp := hI.2.2.1.2 _ gx.1 gx.2
        have wx := rl_wo h1 (by omega) gx.2
        have wt := rl_wo h1 gt.1 gt.2
        have wp := rl_wo h1 hpp.1 (by omega : σ (o + 2) (goX σ o) < σ o 2)
        have nx := (rl_row h1 (by omega) gx.2).2
        have nt := (rl_row h1 gt.1 gt.2).2
        have np := (rl_row h1 hpp.1 (by omega : σ (o + 2) (goX σ o) < σ o 2)).2
        obtain ⟨⟨i1, i2, i3⟩, ⟨i4, i5⟩, i6, i7⟩ := mrgL_in hmem
        rw [rowL_len hI.2.1] at i3 i5 i7
        obtain ⟨⟨j1, j2, j3⟩, ⟨j4, j5, j6⟩, j7, j8, j9⟩ := m4 gp hmem
        have q1 := ptW_S y1 (fx_mg hx1).2.2.2.2.2.2.2.2.2.1.2 wp.1 i1 j2 (by omega)
        have q2 := ptW_S y2 (fx_mg hx1).2.2.2.2.2.2.2.2.2.2.1.2 wt.1 i4 j5 (by omega)
        have q3 := ptW_S y3 (fx_mg hx1).2.2.2.2.2.2.2.2.2.2.2.1.2 wx.1 i6 j8 (by omega)
        obtain ⟨n1, l1⟩ := seg_rw (e := gp.2.1) wp.1 i1 (by omega)
        obtain ⟨n2, l2⟩ := seg_rw (e := gp.2.2.2.1) wt.1 i4 (by omega)
        obtain ⟨n3, l3⟩ := seg_rw (e := gp.2.2.2.2.2) wx.1 i6 (by omega)
        rw [rl_seg h1 hpp.1 (by omega) i1 (by omega)] at q1 n1 l1
        rw [rl_seg h1 gt.1 gt.2 i4 (by omega)] at q2 n2 l2
        rw [rl_seg h1 (by omega) gx.2 i6 (by omega)] at q3 n3 l3
        have f1 : cgB σ o k = seg (rwI σ o (σ (o + 2) (goX σ o))) gp.1 gp.2.1 := by unfold cgB; rw [hgd]
        have f2 : cgO σ o k = seg (rwI σ o (σ o 43)) gp.2.2.1 gp.2.2.2.1 := by unfold cgO; rw [hgd]
        have f3 : cgT σ o k = seg (rwI σ o (goX σ o)) gp.2.2.2.2.1 gp.2.2.2.2.2 := by unfold cgT; rw [hgd]
        rw [← f1] at q1 n1 l1
        rw [← f2] at q2 n2 l2
        rw [← f3] at q3 n3 l3
        have rp1 : ∀ r, S (a + 5 + 84) 0 = some r → r = w (σ (o + 2) (goX σ o)) := fun r h9 => by rw [y1.1] at h9; exact (Option.some.inj h9).symm
        have rp2 : ∀ r, S (a + 5 + 85) 0 = some r → r = w (σ o 43) := fun r h9 => by rw [y2.1] at h9; exact (Option.some.inj h9).symm
        have rp3 : ∀ r, S (a + 5 + 86) 0 = some r → r = w (goX σ o) := fun r h9 => by rw [y3.1] at h9; exact (Option.some.inj h9).symm
        have op := wp.2.1
        have ot := wt.2.1
        have ox := wx.2.1
        refine x_aload_n (pc := 25) hC dX11_pickConflict_25 rfl ?_
        refine x_getO (pc := 26) hC gf_X11_36 dX11_pickConflict_26 (fx_ta hx) (fx_mg hx1).1 ?_
        refine x_aload_n (pc := 29) hC dX11_pickConflict_29 rfl ?_
        refine x_getO (pc := 30) hC gf_X11_36 dX11_pickConflict_30 (fx_ta hx) (fx_mg hx1).1 ?_
        refine x_getO (pc := 33) hC gf_X11_300 dX11_pickConflict_33 (fx_mg hx1).2.1 (fx_mg hx1).2.2.2.2.2.2.2.2.2.1.1 ?_
        refine x_aload_n (pc := 36) hC dX11_pickConflict_36 rfl ?_
        refine x_getO (pc := 37) hC gf_X11_36 dX11_pickConflict_37 (fx_ta hx) (fx_mg hx1).1 ?_
        refine x_getO (pc := 40) hC gf_X11_297 dX11_pickConflict_40 (fx_mg hx1).2.1 (fx_mg hx1).2.2.2.2.2.2.2.2.2.2.1.1 ?_
        refine x_aload_n (pc := 43) hC dX11_pickConflict_43 rfl ?_
        refine x_getO (pc := 44) hC gf_X11_36 dX11_pickConflict_44 (fx_ta hx) (fx_mg hx1).1 ?_
        refine x_getO (pc := 47) hC gf_X11_293 dX11_pickConflict_47 (fx_mg hx1).2.1 (fx_mg hx1).2.2.2.2.2.2.2.2.2.2.2.1.1 ?_
        refine x_rV (pc := 50) hC cv_X11_399 dX11_pickConflict_50 (c_findShape (fx_mg hx1).2 q1 q2 q3 n1 n2 n3 l1 l2 l3 (by omega) (fun r hr => by have := rp1 r hr; omega) (fun r hr => by have := rp2 r hr; omega) (fun r hr => by have := rp3 r hr; omega)) (fx_mg hx1).2.1 rfl (by decide) rfl rfl (Nat.le_of_ble_eq_true rfl) ?_
        rintro v9 K U ⟨rfl, z1, z2, z3, z4⟩
        dsimp only [Option.toList, List.nil_append]
        have s2 : scK T N a J K S U := sc_fs z1 z4
        refine x_iconst (pc := 53) hC dX11_pickConflict_53 ?_
        refine x_zret (pc := 54) hC rfl dX11_pickConflict_54 (Or.inr rfl) ?_
        have e84 : ∀ p, p = a + 5 + 84 ∨ p = a + 5 + 85 ∨ p = a + 5 + 86 → K p = J p ∧ U p = S p := fun p hp => ⟨z1 p (by omega), by rw [z4]; exact axu_row (by omega)⟩
        refine ⟨⟨s1.tr s2, Or.inr ⟨hop, rfl, ⟨ptS_fr q1 (e84 _ (Or.inl rfl)).1 (by rw [(e84 _ (Or.inl rfl)).2]) (fun r hr => ?_), ptS_fr q2 (e84 _ (Or.inr (Or.inl rfl))).1 (by rw [(e84 _ (Or.inr (Or.inl rfl))).2]) (fun r hr => ?_), ptS_fr q3 (e84 _ (Or.inr (Or.inr rfl))).1 (by rw [(e84 _ (Or.inr (Or.inr rfl))).2]) (fun r hr => ?_)⟩, ⟨⟨n1, l1⟩, ⟨n2, l2⟩, n3, l3⟩, ⟨z2, z3⟩, by rw [z4, axu_s]⟩⟩, rfl, rfl, rfl⟩
        · have := rp1 r hr; exact z1 r (by omega)
        · have := rp2 r hr; exact z1 r (by omega)
        · have := rp3 r hr; exact z1 r (by omega)
      · refine x_iconst (pc := 23) hC dX11_pickConflict_23 ?_
        refine x_zret (pc := 24) hC rfl dX11_pickConflict_24 (Or.inl rfl) ?_
        exact ⟨⟨s1, Or.inl ⟨fun h9 => by have := h9.2.2; omega, rfl⟩⟩, rfl, rfl, rfl⟩
    

