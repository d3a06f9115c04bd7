/-! THE CLASS: settle, 2 -/
theorem opP_u0 {σ : Nat → Int → Int} {o : Nat} {v k : Int} : (opP (ax_u σ o 0 v) o k ↔ opP σ o k) ∧ cgB (ax_u σ o 0 v) o k = cgB σ o k ∧ cgO (ax_u σ o 0 v) o k = cgO σ o k ∧ cgT (ax_u σ o 0 v) o k = cgT σ o k := by
  have hr : ∀ q, q ≠ o → ax_u σ o 0 v q = σ q := fun q h => axu_row h
  have eX : goX (ax_u σ o 0 v) o = goX σ o := by unfold goX; rw [hr (o + 28) (by omega), axu_j (by decide)]
  have eG : cgG (ax_u σ o 0 v) o k = cgG σ o k := by unfold cgG; rw [goM_u0]
  refine ⟨?_, ?_, ?_, ?_⟩
  · unfold opP; rw [goM_u0, axu_j (by decide)]
  · unfold cgB rwI; rw [eX, eG, hr (o + 2) (by omega), hr (o + 5) (by omega)]
  · unfold cgO rwI; rw [eG, hr (o + 5) (by omega), axu_j (by decide)]
  · unfold cgT rwI; rw [eX, eG, hr (o + 5) (by omega)]
theorem cShape_ln {B O Th : List Int} (hB : isLn B) (hO : isLn O) (hT : isLn Th) : isLn (cShape B O Th).2 := by
  unfold cShape
  split
  · exact shpSeq_ln hB hO hT
  · exact shpSeq_ln hB hT hO
theorem cShape_l2 (B O Th : List Int) (h : B.length + O.length + Th.length ≤ 48) : (cShape B O Th).2.length ≤ 48 := by
  have h1 := cShape_l B O Th
  omega

set_option maxHeartbeats 4000000 in
set_option maxRecDepth 100000 in
theorem c_settle {G : ax_G} {T : Nat → Nat} {N : Nat → Int} {I : Nat → Int → Int} {R : Nat → Int → Option Nat} {z a o : Nat} {σ : Nat → Int → Int} {A w : Int → Nat} (h : RelA G T N I R z a o σ A w) (hI : miC σ o) (hR : miR σ o) (hMS : miS σ o) (hS : rpS σ o) {k s : Int} (rk : ax_r k) (rs : ax_r s) : axM G YX11_settle 6 [vR a, vI k, vI s] T N I R z 3 59 (rPX G T N I R z a o (vI (stl σ o k s).1) (stl σ o k s).2) := by
  refine ax_enter (by decide) (Nat.le_of_ble_eq_true rfl) (ax_cat rfl) (fun f hC => ?_)
  show axX G f 3 59 _ 0 [vR a, vI k, vI s, vU, vU] [] T N I R z 3 59
  have hx := rl_fx h
  have b0 := fx_b0 hx
  have b1 := fx_b1 hx
  have b2 := fx_b2 hx
  have h0 := rl_f0 h 0
  obtain ⟨op0, cB, cO, cT⟩ := opP_u0 (σ := σ) (o := o) (v := 0) (k := k)
  have hpk := c_pickConflict h0 (miC_u0 hI) (miR_u0 hR) (rpS_u0 hS) rk
  rw [cB, cO, cT] at hpk
  unfold stl
  by_cases hs5 : 0 ≤ s ∧ s < 5
  · obtain ⟨n, rfl⟩ : ∃ n : Nat, s = n := ⟨s.toNat, by omega⟩
    have hn : n < 5 := by omega
    refine x_aload_n (pc := 0) hC dX11_settle_0 rfl ?_
    refine x_iconst (pc := 1) hC dX11_settle_1 ?_
    refine x_putI (pc := 2) hC pf_X11_77 dX11_settle_2 (fx_ta hx) (by decide) ?_
    refine x_aload_n (pc := 5) hC dX11_settle_5 rfl ?_
    refine x_iload_n (pc := 6) hC dX11_settle_6 rfl ?_
    refine x_mV (pc := 7) hC cv_X11_85 dX11_settle_7 (rl_sa h0 hn) (fx_ta hx) rfl (by decide) rfl rfl (Nat.le_of_ble_eq_true rfl) ?_
    dsimp only [Option.toList, List.cons_append, List.nil_append]
    refine x_astore_n (pc := 10) hC dX11_settle_10 (Nat.le_of_ble_eq_true rfl) ?_
    dsimp only [List.set]
    refine x_aload_n (pc := 11) hC dX11_settle_11 rfl ?_
    refine x_ifnull (pc := 12) hC 23 dX11_settle_12 (by decide) (fun h => by cases h) (fun _ _ => ?_)
    refine x_aload_n (pc := 15) hC dX11_settle_15 rfl ?_
    refine x_iload_n (pc := 16) hC dX11_settle_16 rfl ?_
    refine x_rV (pc := 17) hC cv_X11_282 dX11_settle_17 hpk (fx_ta hx) rfl (by decide) rfl rfl (Nat.le_of_ble_eq_true rfl) ?_
    rintro v9 J S ⟨s1, hq⟩
    have h1 := rl_sc h0 s1
    have hx1 := rl_fx h1
    rcases hq with ⟨hop, rfl⟩ | ⟨hop, rfl, -, ⟨⟨n1, l1⟩, ⟨n2, l2⟩, n3, l3⟩, ⟨z2, z3⟩, hsh⟩
    · dsimp only [Option.toList, List.cons_append, List.nil_append]
      rw [if_neg (fun h9 => hop (op0.mpr h9.1))]
      refine x_if_ne (pc := 20) hC 25 dX11_settle_20 (by decide) (by decide) (fun h => absurd rfl h) (fun _ => ?_)
      refine x_iconst (pc := 23) hC dX11_settle_23 ?_
      refine x_iret (pc := 24) hC rfl dX11_settle_24 ?_
      exact ⟨rfl, (fro_f (f := 0) (by omega)).tr (fro_sc s1 b1), Nat.le_refl _, A, w, h1⟩
    · dsimp only [Option.toList, List.cons_append, List.nil_append]
      rw [if_pos ⟨op0.mp hop, hs5⟩]
      have so31 : ax_u σ o 0 0 (o + 31) n = σ (o + 31) n := axu_a (by omega)
      have so32 : ax_u σ o 0 0 (o + 32) n = σ (o + 32) n := axu_a (by omega)
      have so30 : ax_u σ o 0 0 o 30 = σ o 30 := axu_j (by decide)
      have hMS0 := miS_f (f := 0) hMS
      have hR0 := miR_u0 (v := 0) hR
      obtain ⟨k1, k2, k3, k4, k5⟩ := rl_sl h1 n hn
      rw [so31] at k2 k3 k4 k5
      by_cases hso : σ (o + 31) n = 0
      · rw [if_pos (show σ (o + 31) n ≤ 0 by omega), if_neg (show ¬ σ (o + 31) n = -9 by omega)]
        obtain ⟨x1, x2, u, hit, u13, uN, uL, uo⟩ := k4 (Or.inl hso)
        rw [so32] at uN uL
        rw [slL_u0] at uL
        obtain ⟨-, -, ur⟩ := rl_ar h1 hMS0 hn u hit
        have hb24 := hMS.2.1 n
        have hal : (N u ≤ 6 ∧ ∀ j, 0 ≤ j → j < N u → 0 ≤ J u j ∧ J u j < 100) ↔ alP (slL σ o n) 6 := by
          unfold alP lnB
          rw [← uL, seg_len]
          constructor
          · rintro ⟨y1, y2⟩
            refine ⟨by omega, fun v hv => ?_⟩
            obtain ⟨j, j0, j1, rfl⟩ := seg_mem.mp hv
            exact y2 j j0 (by omega)
          · rintro ⟨y1, y2⟩
            exact ⟨by omega, fun j j0 j1 => y2 _ (seg_mem.mpr ⟨j, j0, by omega, rfl⟩)⟩
        have : Decidable (N u ≤ 6 ∧ ∀ j, 0 ≤ j → j < N u → 0 ≤ J u j ∧ J u j < 100) := Classical.propDecidable _
        have hhl := c_holdsLines (G := G) (T := T) (N := N) (R := S) (z := z) (m := 6) (I := J) (fx_ss hx1 n hn).2 hit u13 (by omega) (by decide) (fun j j0 j1 => by rw [ur j j0 j1]; exact hMS0.2.2.1 _)
        have hr1 := (rl_rs h1).1
        have hrl := rsL_len hR0
        rw [so30] at hrl
        have hr8 := hR.1
        by_cases hok : alP (slL σ o n) 6
        · rw [if_pos hok]
          rw [bI_t (hal.mpr hok)] at hhl
          have hok2 := hal.mpr hok
          by_cases hfull : σ o 30 = 8
          · rw [if_pos hfull]
            refine x_if_ne (pc := 20) hC 25 dX11_settle_20 (by decide) (by decide) (fun _ => ?_) (fun h => absurd h (by decide))
            refine x_aload_n (pc := 25) hC dX11_settle_25 rfl ?_
            refine x_mV (pc := 26) hC cv_X11_93 dX11_settle_26 (c_faultAsBytes (fx_ss hx1 n hn).2 k1 (rl_sc2 h1 hn)) (fx_ss hx1 n hn).2 rfl (by decide) rfl rfl (Nat.le_of_ble_eq_true rfl) ?_
            dsimp only [Option.toList, List.cons_append, List.nil_append]
            rw [rl_fb h1 hn rfl, so31]
            rw [if_neg (by omega), if_pos hso]
            refine x_istore (pc := 29) hC dX11_settle_29 (Nat.le_of_ble_eq_true rfl) ?_
            dsimp only [List.set]
            refine x_iload (pc := 31) hC dX11_settle_31 rfl ?_
            refine x_if_eq (pc := 33) hC 43 dX11_settle_33 (by decide) (by decide) (fun _ => ?_) (fun h => absurd rfl h)
            refine x_aload_n (pc := 43) hC dX11_settle_43 rfl ?_
            refine x_bipush (pc := 44) hC dX11_settle_44 (by decide) ?_
            refine x_mV (pc := 46) hC cv_X11_101 dX11_settle_46 hhl (fx_ss hx1 n hn).2 rfl (by decide) rfl rfl (Nat.le_of_ble_eq_true rfl) ?_
            dsimp only [Option.toList, List.cons_append, List.nil_append]
            refine x_if_ne (pc := 49) hC 55 dX11_settle_49 (by decide) (by decide) (fun _ => ?_) (fun h => absurd h (by decide))
            refine x_aload_n (pc := 55) hC dX11_settle_55 rfl ?_
            refine x_getO (pc := 56) hC gf_X11_36 dX11_settle_56 (fx_ta hx1) (fx_mg hx1).1 ?_
            refine x_getI (pc := 59) hC gf_X11_207 dX11_settle_59 (fx_mg hx1).2.1 ?_
            refine x_bipush (pc := 62) hC dX11_settle_62 (by decide) ?_
            rw [hr1, hrl]
            refine x_icmp_lt (pc := 64) hC 70 dX11_settle_64 (by decide) (by omega) (by omega) (fun b64 => ?_) (fun b64 => ?_)
            · exfalso; omega
            · refine x_bipush (pc := 67) hC dX11_settle_67 (by decide) ?_
              refine x_iret (pc := 69) hC rfl dX11_settle_69 ?_
              exact ⟨rfl, (fro_f (f := 0) (by omega)).tr (fro_sc s1 b1), Nat.le_refl _, A, w, h1⟩
          · rw [if_neg hfull]
            refine x_if_ne (pc := 20) hC 25 dX11_settle_20 (by decide) (by decide) (fun _ => ?_) (fun h => absurd h (by decide))
            refine x_aload_n (pc := 25) hC dX11_settle_25 rfl ?_
            refine x_mV (pc := 26) hC cv_X11_93 dX11_settle_26 (c_faultAsBytes (fx_ss hx1 n hn).2 k1 (rl_sc2 h1 hn)) (fx_ss hx1 n hn).2 rfl (by decide) rfl rfl (Nat.le_of_ble_eq_true rfl) ?_
            dsimp only [Option.toList, List.cons_append, List.nil_append]
            rw [rl_fb h1 hn rfl, so31]
            rw [if_neg (by omega), if_pos hso]
            refine x_istore (pc := 29) hC dX11_settle_29 (Nat.le_of_ble_eq_true rfl) ?_
            dsimp only [List.set]
            refine x_iload (pc := 31) hC dX11_settle_31 rfl ?_
            refine x_if_eq (pc := 33) hC 43 dX11_settle_33 (by decide) (by decide) (fun _ => ?_) (fun h => absurd rfl h)
            refine x_aload_n (pc := 43) hC dX11_settle_43 rfl ?_
            refine x_bipush (pc := 44) hC dX11_settle_44 (by decide) ?_
            refine x_mV (pc := 46) hC cv_X11_101 dX11_settle_46 hhl (fx_ss hx1 n hn).2 rfl (by decide) rfl rfl (Nat.le_of_ble_eq_true rfl) ?_
            dsimp only [Option.toList, List.cons_append, List.nil_append]
            refine x_if_ne (pc := 49) hC 55 dX11_settle_49 (by decide) (by decide) (fun _ => ?_) (fun h => absurd h (by decide))
            refine x_aload_n (pc := 55) hC dX11_settle_55 rfl ?_
            refine x_getO (pc := 56) hC gf_X11_36 dX11_settle_56 (fx_ta hx1) (fx_mg hx1).1 ?_
            refine x_getI (pc := 59) hC gf_X11_207 dX11_settle_59 (fx_mg hx1).2.1 ?_
            refine x_bipush (pc := 62) hC dX11_settle_62 (by decide) ?_
            rw [hr1, hrl]
            refine x_icmp_lt (pc := 64) hC 70 dX11_settle_64 (by decide) (by omega) (by omega) (fun b64 => ?_) (fun b64 => ?_)
            · obtain ⟨sp, hs9⟩ : ∃ sp, sp = (if lxF (shpSeq (cgB σ o k) (cgO σ o k) (cgT σ o k)).1 (shpSeq (cgB σ o k) (cgT σ o k) (cgO σ o k)).1 = 1 then a + 5 + 90 else a + 5 + 87) := ⟨_, rfl⟩
              rw [← hs9] at hsh
              have h01 := lxF_01 (shpSeq (cgB σ o k) (cgO σ o k) (cgT σ o k)).1 (shpSeq (cgB σ o k) (cgT σ o k) (cgO σ o k)).1
              have hsel : shT T N S sp ∧ shS J sp (cShape (cgB σ o k) (cgO σ o k) (cgT σ o k)) ∧ (sp = a + 5 + 90 ∨ sp = a + 5 + 87) := by
                unfold cShape
                rcases h01 with h | h
                · rw [if_neg (by omega)] at hs9
                  rw [if_pos h, hs9]
                  exact ⟨(fx_mg hx1).2.2.2.2.2.2.2.2.2.2.2.2.1.2, z2, Or.inr rfl⟩
                · rw [if_pos h] at hs9
                  rw [if_neg (by omega), hs9]
                  exact ⟨(fx_mg hx1).2.2.2.2.2.2.2.2.2.2.2.2.2.2, z3, Or.inl rfl⟩
              obtain ⟨hsT, hsS, hs4⟩ := hsel
              have hcl := cShape_l (cgB σ o k) (cgO σ o k) (cgT σ o k)
              have hcl2 := cShape_l2 (cgB σ o k) (cgO σ o k) (cgT σ o k) (by omega)
              have hlen : (((slL σ o n).length : Nat) : Int) = σ (o + 32) n := by rw [← uL, seg_len]; omega
              obtain ⟨c, hc9⟩ : ∃ c, c = (cShape (cgB σ o k) (cgO σ o k) (cgT σ o k)) := ⟨_, rfl⟩
              have hcn := cShape_ln n1 n2 n3
              rw [← hc9] at hsS hcl hcl2 hcn ⊢
              obtain ⟨X, hX⟩ : ∃ X, X = stM (ax_u σ o 0 0) o n c := ⟨_, rfl⟩
              have hst := st_rs hR0 (s := (n : Int)) (c := c) (by rw [so30]; omega) (by omega) (by rw [so32]; have := hok2.1; omega) hX
              rw [slL_u0, so30] at hst
              rw [← hX]
              have har := c_addResolution (G := G) (T := T) (N := N) (I := J) (R := S) (z := z) (g := a + 5) (s := sp) (u := u) (c := c) (M := slL σ o n) (fx_mg hx1).2 (rl_re h1) (by omega) hsh hsT hsS (by omega) hcl2 hcn (by omega) u13 (by rw [hlen]; exact uN) (by rw [hlen]; exact uL) (by omega) hok.2 (by omega) (fx_tz hx1 u (by omega)) (by omega) (by omega) (fx_tz hx1)
              refine x_aload_n (pc := 70) hC dX11_settle_70 rfl ?_
              refine x_getO (pc := 71) hC gf_X11_36 dX11_settle_71 (fx_ta hx1) (fx_mg hx1).1 ?_
              refine x_aload_n (pc := 74) hC dX11_settle_74 rfl ?_
              refine x_getO (pc := 75) hC gf_X11_108 dX11_settle_75 (fx_ss hx1 n hn).2 hit ?_
              refine x_callV (pc := 78) hC cv_X11_307 dX11_settle_78 har (fx_mg hx1).2.1 rfl (by decide) (by omega) (by omega) rfl rfl (Nat.le_of_ble_eq_true rfl) (fun r9 T2 N2 I2 R2 z2 hq => ?_)
              obtain ⟨rfl, ⟨rfl, w0⟩, w1, w2, w3, w4, w5, ⟨w6, w7, w8, w9⟩, w10⟩ := hq
              dsimp only [Option.toList, List.nil_append]
              have hTa : T2 a = 11 := by rw [(w1 a (by omega)).1]; exact fx_ta hx1
              have hT5 : T2 (a + 5) = 3 := by rw [(w1 (a + 5) (by omega)).1]; exact (fx_mg hx1).2.1
              have hM5 : R2 a 5 = some (a + 5) := by rw [w4 a (by omega) (by omega)]; exact (fx_mg hx1).1
              refine x_aload_n (pc := 81) hC dX11_settle_81 rfl ?_
              refine x_getO (pc := 82) hC gf_X11_36 dX11_settle_82 hTa hM5 ?_
              refine x_getI (pc := 85) hC gf_X11_207 dX11_settle_85 hT5 ?_
              rw [w10.1]
              refine x_iret (pc := 88) hC rfl dX11_settle_88 ?_
              have hl1 : ((rsL (ax_u σ o 0 0) o ++ [(c.1, (slL σ o n).map (stv c.2))]).length : Int) = σ o 30 + 1 := by rw [List.length_append, List.length_singleton]; omega
              rw [hl1]
              have tz1 : ∀ q, T2 q ≠ 99 → q < z + 3 := fun q hq => by
                rcases Nat.lt_or_ge q (z + 3) with h9 | h9
                · exact h9
                · rw [w0 q h9] at hq
                  have := fx_tz hx1 q hq
                  omega
              refine ⟨rfl, ?_, by omega, A, w, ?_⟩
              · refine (fro_f (f := 0) (by omega)).tr ((fro_sc s1 b1).tr (fun q hq => ⟨(w1 q (by omega)).1, (w1 q (by omega)).2, w2 q (by omega) (by omega), w4 q (by omega) (by omega)⟩))
              · refine rl_gen2 h1 w1 (by omega) tz1 (fun q q0 q1 q2 q3 => w2 q q0 q3) (fun j hj => by rw [w2 a (by omega) (by omega)]) (by rw [w2 a (by omega) (by omega), hst.2.2.1 0 (by decide)]; exact rl_f h1) (by rw [w2 (a + 1) (by omega) (by omega), hst.2.2.1 1 (by decide)]; exact rl_t h1) (fun q q0 q1 q2 => w4 q q0 q2) (fun j e0 e1 e3 => hst.2.2.1 j e3) (fun q q1 q2 q3 => hst.2.2.2 q q1 q3) (fun d d0 d1 => by rw [w4 (a + 3) (by omega) (by omega), hst.2.2.2 (o + 7) (by omega) (by omega)]; exact rl_tp h1 d d0 d1) ⟨?_, ?_, fun j p hp => ?_⟩ (fun j v a1 a2 hv => ?_) (fun _ => by unfold thR; rw [hst.2.2.2 (o + 2) (by omega) (by omega), hst.2.2.2 (o + 7) (by omega) (by omega), hst.2.2.1 42 (by decide), hst.2.2.1 41 (by decide)])
                · rw [hst.1]; exact w10.1
                · rw [hst.1]; exact w10.2.1
                · rw [hst.1] at hp
                  have hsu : ∀ t : Nat, t < 5 → ∀ u9, S (a + 177 + t) 0 = some u9 → u9 < z := fun t ht u9 hu9 => fx_tz hx1 u9 (by have := (rl_ar h1 hMS0 ht u9 hu9).1.1; omega)
                  by_cases hj : j < (rsL (ax_u σ o 0 0) o).length
                  · rw [List.getElem?_append_left hj] at hp
                    obtain ⟨q, y1, y2⟩ := (rl_rs h1).2.2 j p hp
                    refine ⟨q, (w5 j (by omega)).trans y1, reE_up y2 (fun q hq => w1 q (fx_tz hx1 q hq)) (fun u9 hu9 h13 hn9 => ⟨w2 u9 (fx_tz hx1 u9 (by omega)) (by omega), fun t ht => by rw [w4 _ (by omega) (by omega)]; exact hn9 t ht⟩) (fun q hq h7 => w4 q (fx_tz hx1 q (by omega)) (by omega))⟩
                  · obtain ⟨q, y1, ⟨y2, -⟩, u9, v9, f0, f1, ⟨g1, g2, g3, -⟩, g4, g5, g6, -⟩ := w10.2.2 j p hp
                    have hje : j = (rsL (ax_u σ o 0 0) o).length := by
                      have := (List.getElem?_eq_some_iff.mp hp).1
                      rw [List.length_append, List.length_singleton] at this
                      omega
                    rw [hje] at y1 ⊢
                    have e1 : q = z + 2 := Option.some.inj (y1.symm.trans w6)
                    rw [e1] at f0 f1 y2
                    have e2 : u9 = z + 1 := Option.some.inj (f0.symm.trans w7)
                    have e3 : v9 = z := Option.some.inj (f1.symm.trans w8)
                    refine ⟨z + 2, w6, ⟨w9, by omega⟩, u9, v9, ⟨f0, f1⟩, ⟨by omega, by omega⟩, ⟨g1, g2, g3⟩, ⟨g4, g5, g6⟩, fun t ht => ⟨fun h9 => ?_, fun h9 => ?_⟩⟩
                    · rw [w4 _ (by omega) (by omega)] at h9
                      have := hsu t ht _ h9; omega
                    · rw [w4 _ (by omega) (by omega)] at h9
                      have := hsu t ht _ h9; omega
                · by_cases hj : j = ((rsL (ax_u σ o 0 0) o).length : Int)
                  · rw [hj] at hv
                    have : v = z + 2 := Option.some.inj (hv.symm.trans w6)
                    rw [this]; exact w9
                  · have hv2 := (w5 j hj).symm.trans hv
                    have h7 := (rl_r7 h1).1 j v a1 a2 hv2
                    rw [(w1 v (fx_tz hx1 v (by omega))).1]; exact h7
            · exfalso; omega
        · rw [if_neg hok]
          rw [bI_f (fun h9 => hok (hal.mp h9))] at hhl
          refine x_if_ne (pc := 20) hC 25 dX11_settle_20 (by decide) (by decide) (fun _ => ?_) (fun h => absurd h (by decide))
          refine x_aload_n (pc := 25) hC dX11_settle_25 rfl ?_
          refine x_mV (pc := 26) hC cv_X11_93 dX11_settle_26 (c_faultAsBytes (fx_ss hx1 n hn).2 k1 (rl_sc2 h1 hn)) (fx_ss hx1 n hn).2 rfl (by decide) rfl rfl (Nat.le_of_ble_eq_true rfl) ?_
          dsimp only [Option.toList, List.cons_append, List.nil_append]
          rw [rl_fb h1 hn rfl, so31]
          rw [if_neg (by omega), if_pos hso]
          refine x_istore (pc := 29) hC dX11_settle_29 (Nat.le_of_ble_eq_true rfl) ?_
          dsimp only [List.set]
          refine x_iload (pc := 31) hC dX11_settle_31 rfl ?_
          refine x_if_eq (pc := 33) hC 43 dX11_settle_33 (by decide) (by decide) (fun _ => ?_) (fun h => absurd rfl h)
          refine x_aload_n (pc := 43) hC dX11_settle_43 rfl ?_
          refine x_bipush (pc := 44) hC dX11_settle_44 (by decide) ?_
          refine x_mV (pc := 46) hC cv_X11_101 dX11_settle_46 hhl (fx_ss hx1 n hn).2 rfl (by decide) rfl rfl (Nat.le_of_ble_eq_true rfl) ?_
          dsimp only [Option.toList, List.cons_append, List.nil_append]
          refine x_if_ne (pc := 49) hC 55 dX11_settle_49 (by decide) (by decide) (fun h => absurd rfl h) (fun _ => ?_)
          refine x_bipush (pc := 52) hC dX11_settle_52 (by decide) ?_
          refine x_iret (pc := 54) hC rfl dX11_settle_54 ?_
          exact ⟨rfl, (fro_f (f := 0) (by omega)).tr (fro_sc s1 b1), Nat.le_refl _, A, w, h1⟩
      · by_cases hs9 : σ (o + 31) n = -9
        · rw [if_pos (show σ (o + 31) n ≤ 0 by omega), if_pos hs9]
          refine x_if_ne (pc := 20) hC 25 dX11_settle_20 (by decide) (by decide) (fun _ => ?_) (fun h => absurd h (by decide))
          refine x_aload_n (pc := 25) hC dX11_settle_25 rfl ?_
          refine x_mV (pc := 26) hC cv_X11_93 dX11_settle_26 (c_faultAsBytes (fx_ss hx1 n hn).2 k1 (rl_sc2 h1 hn)) (fx_ss hx1 n hn).2 rfl (by decide) rfl rfl (Nat.le_of_ble_eq_true rfl) ?_
          dsimp only [Option.toList, List.cons_append, List.nil_append]
          rw [rl_fb h1 hn rfl, so31]
          rw [if_pos hs9]
          refine x_istore (pc := 29) hC dX11_settle_29 (Nat.le_of_ble_eq_true rfl) ?_
          dsimp only [List.set]
          refine x_iload (pc := 31) hC dX11_settle_31 rfl ?_
          refine x_if_eq (pc := 33) hC 43 dX11_settle_33 (by decide) (by decide) (fun h => absurd h (by decide)) (fun _ => ?_)
          refine x_aload_n (pc := 36) hC dX11_settle_36 rfl ?_
          refine x_iload (pc := 37) hC dX11_settle_37 rfl ?_
          refine x_mV (pc := 39) hC cv_X11_97 dX11_settle_39 (c_failBy hx1) (fx_ta hx1) rfl (by decide) rfl rfl (Nat.le_of_ble_eq_true rfl) ?_
          dsimp only [Option.toList, List.cons_append, List.nil_append]
          refine x_iret (pc := 42) hC rfl dX11_settle_42 ?_
          exact ⟨rfl, (fro_f (f := 0) (by omega)).tr ((fro_sc s1 b1).tr (fro_f (by omega))), Nat.le_refl _, A, w, rl_f0 h1 1⟩
        · have hge : ¬ σ (o + 31) n ≤ 0 := by clear k3 k4 k5; omega
          rw [if_neg hge]
          refine x_if_ne (pc := 20) hC 25 dX11_settle_20 (by decide) (by decide) (fun _ => ?_) (fun h => absurd h (by decide))
          refine x_aload_n (pc := 25) hC dX11_settle_25 rfl ?_
          refine x_mV (pc := 26) hC cv_X11_93 dX11_settle_26 (c_faultAsBytes (fx_ss hx1 n hn).2 k1 (rl_sc2 h1 hn)) (fx_ss hx1 n hn).2 rfl (by decide) rfl rfl (Nat.le_of_ble_eq_true rfl) ?_
          dsimp only [Option.toList, List.cons_append, List.nil_append]
          rw [rl_fb h1 hn rfl, so31]
          rw [if_neg hs9, if_neg hso]
          refine x_istore (pc := 29) hC dX11_settle_29 (Nat.le_of_ble_eq_true rfl) ?_
          dsimp only [List.set]
          refine x_iload (pc := 31) hC dX11_settle_31 rfl ?_
          refine x_if_eq (pc := 33) hC 43 dX11_settle_33 (by decide) (by decide) (fun h => absurd h (by decide)) (fun _ => ?_)
          refine x_aload_n (pc := 36) hC dX11_settle_36 rfl ?_
          refine x_iload (pc := 37) hC dX11_settle_37 rfl ?_
          refine x_mV (pc := 39) hC cv_X11_97 dX11_settle_39 (c_failBy hx1) (fx_ta hx1) rfl (by decide) rfl rfl (Nat.le_of_ble_eq_true rfl) ?_
          dsimp only [Option.toList, List.cons_append, List.nil_append]
          refine x_iret (pc := 42) hC rfl dX11_settle_42 ?_
          exact ⟨rfl, (fro_f (f := 0) (by omega)).tr ((fro_sc s1 b1).tr (fro_f (by omega))), Nat.le_refl _, A, w, rl_f0 h1 2⟩
  · rw [if_neg (fun h9 => hs5 h9.2)]
    refine x_aload_n (pc := 0) hC dX11_settle_0 rfl ?_
    refine x_iconst (pc := 1) hC dX11_settle_1 ?_
    refine x_putI (pc := 2) hC pf_X11_77 dX11_settle_2 (fx_ta hx) (by decide) ?_
    refine x_aload_n (pc := 5) hC dX11_settle_5 rfl ?_
    refine x_iload_n (pc := 6) hC dX11_settle_6 rfl ?_
    refine x_mV (pc := 7) hC cv_X11_85 dX11_settle_7 (rl_ns h0 rs hs5) (fx_ta hx) rfl (by decide) rfl rfl (Nat.le_of_ble_eq_true rfl) ?_
    dsimp only [Option.toList, List.cons_append, List.nil_append]
    refine x_astore_n (pc := 10) hC dX11_settle_10 (Nat.le_of_ble_eq_true rfl) ?_
    dsimp only [List.set]
    refine x_aload_n (pc := 11) hC dX11_settle_11 rfl ?_
    refine x_ifnull (pc := 12) hC 23 dX11_settle_12 (by decide) (fun _ => ?_) (fun _ h => by cases h)
    refine x_iconst (pc := 23) hC dX11_settle_23 ?_
    refine x_iret (pc := 24) hC rfl dX11_settle_24 ?_
    exact rl_px h 0

