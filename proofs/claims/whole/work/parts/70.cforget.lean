/-! THE CLASS: copy, forget, swaps -/
theorem rsL_at {σ : Nat → Int → Int} {o : Nat} {j : Nat} (h : (j : Int) < σ o 30) : (rsL σ o)[j]? = some (rsK σ o j, rsW σ o j) := by
  simp only [rsL, List.getElem?_map, List.getElem?_range (show j < (σ o 30).toNat by omega), Option.map_some]
theorem rsL_len {σ : Nat → Int → Int} {o : Nat} (h : miR σ o) : ((rsL σ o).length : Int) = σ o 30 := by
  simp only [rsL, List.length_map, List.length_range]; have := h.1; omega
theorem fg_rs {σ : Nat → Int → Int} {o : Nat} (h : miR σ o) {k : Int} (hk : 0 ≤ k ∧ k < σ o 30) : rsL (fg σ o k).2 o = (rsL σ o).eraseIdx k.toNat ∧ (fg σ o k).2 o 30 = σ o 30 - 1 ∧ (∀ j, j ≠ 30 → (fg σ o k).2 o j = σ o j) ∧ ∀ q, q ≠ o → (q < o + 20 ∨ o + 23 < q) → (fg σ o k).2 q = σ q := by
  have hl := rsL_len h
  unfold fg
  rw [if_pos hk]
  dsimp only
  unfold fgF
  obtain ⟨m, hm⟩ : ∃ m, m = σ o 30 := ⟨_, rfl⟩
  rw [← hm]
  have e30 : ∀ j, ax_f (ax_f (ax_f (ax_f (ax_u σ o 30 (m - 1)) (o + 21) k (m - 1 - k) (fun j => σ (o + 21) (j + 1))) (o + 23) k (m - 1 - k) (fun j => σ (o + 23) (j + 1))) (o + 20) (51 * k) (51 * (m - 1 - k)) (fun j => σ (o + 20) (j + 51))) (o + 22) (6 * k) (6 * (m - 1 - k)) (fun j => σ (o + 22) (j + 6)) o j = ax_u σ o 30 (m - 1) o j := fun j => by rw [axf_a (by omega), axf_a (by omega), axf_a (by omega), axf_a (by omega)]
  have hsz := h.2.2.1
  have hsw := h.2.2.2.2.1
  refine ⟨?_, by rw [e30, axu_s], fun j hj => by rw [e30, axu_j hj], fun q h1 h2 => by funext j; rw [axf_a (by omega), axf_a (by omega), axf_a (by omega), axf_a (by omega), axu_row h1]⟩
  apply List.ext_getElem?
  intro j
  by_cases hj : (j : Int) < m - 1
  · rw [rsL_at (by rw [e30, axu_s]; exact hj), List.getElem?_eraseIdx]
    by_cases hjk : j < k.toNat
    · rw [if_pos hjk, rsL_at (by omega)]
      congr 2
      · unfold rsK
        have s1 := hsz j
        rw [axf_a (show o + 21 ≠ o + 22 by omega), axf_a (show o + 21 ≠ o + 20 by omega), axf_a (show o + 21 ≠ o + 23 by omega), axf_out (by omega), axu_a (by omega)]
        exact seg_congr (fun i a1 a2 => by rw [axf_a (show o + 20 ≠ o + 22 by omega), axf_out (by omega), axf_a (show o + 20 ≠ o + 23 by omega), axf_a (show o + 20 ≠ o + 21 by omega), axu_a (by omega)])
      · unfold rsW
        have s1 := hsw j
        rw [axf_a (show o + 23 ≠ o + 22 by omega), axf_a (show o + 23 ≠ o + 20 by omega), axf_out (by omega), axf_a (show o + 23 ≠ o + 21 by omega), axu_a (by omega)]
        exact seg_congr (fun i a1 a2 => by rw [axf_out (by omega), axf_a (show o + 22 ≠ o + 20 by omega), axf_a (show o + 22 ≠ o + 23 by omega), axf_a (show o + 22 ≠ o + 21 by omega), axu_a (by omega)])
    · rw [if_neg hjk, rsL_at (by omega), show (((j + 1 : Nat) : Nat) : Int) = (j : Int) + 1 by omega]
      congr 2
      · unfold rsK
        have s1 := hsz ((j : Int) + 1)
        rw [axf_a (show o + 21 ≠ o + 22 by omega), axf_a (show o + 21 ≠ o + 20 by omega), axf_a (show o + 21 ≠ o + 23 by omega), axf_in (by omega) (by omega)]
        exact seg_shift (by omega) (fun i a1 a2 => by rw [axf_a (show o + 20 ≠ o + 22 by omega), axf_in (by omega) (by omega)]; congr 1; omega)
      · unfold rsW
        have s1 := hsw ((j : Int) + 1)
        rw [axf_a (show o + 23 ≠ o + 22 by omega), axf_a (show o + 23 ≠ o + 20 by omega), axf_in (by omega) (by omega)]
        exact seg_shift (by omega) (fun i a1 a2 => by rw [axf_in (by omega) (by omega)]; congr 1; omega)
  · rw [List.getElem?_eq_none (by simp only [rsL, List.length_map, List.length_range]; rw [e30, axu_s]; omega), List.getElem?_eq_none (by rw [List.length_eraseIdx_of_lt (by omega)]; omega)]
/-- a new array that nothing holds -/
theorem rl_nw {G : ax_G} {T : Nat → Nat} {N : Nat → Int} {I : Nat → Int → Int} {R : Nat → Int → Option Nat} {z a o : Nat} {σ : Nat → Int → Int} {A w : Int → Nat} (h : RelA G T N I R z a o σ A w) {k : Int} {row : Int → Int} : RelA G (ax_n T z 13) (ax_n N z k) (ax_n I z row) (ax_n R z (fun _ => none)) (z + 1) a o σ A w := by
  have hx := rl_fx h
  have b1 := fx_b1 hx
  have b2 := fx_b2 hx
  have tz0 := fx_tz hx
  have hk := rl_sl h 0 (by decide)
  refine rl_slot h (s := 0) (by decide) (fun q hq => ⟨axn_a (by omega), axn_a (by omega)⟩) (by omega) (fun q hq => ?_) (fun q h1 _ _ _ => axn_a (by omega)) (fun j hj => by rw [axn_a (by omega)]) (by rw [axn_a (by omega)]; exact rl_f h) (fun q h1 _ => axn_a (by omega)) (fun _ _ => rfl) (fun _ _ _ => rfl) (fun t _ _ => ⟨rfl, rfl, rfl, rfl, rfl, rfl⟩) ?_ (fun u hu => by rw [axn_a (by omega)] at hu; exact Or.inr hu)
  · by_cases e : q = z
    · omega
    · rw [axn_a e] at hq
      have := tz0 q hq
      omega
  · refine slK_up hk (fun q hq => ⟨axn_a (by have := tz0 q hq; omega), axn_a (by have := tz0 q hq; omega)⟩) (axn_a (by omega)) (axn_a (by omega)) (fun u hu => axn_a ?_) (fun q hq => ?_) rfl rfl rfl rfl rfl (fun _ => Iff.rfl) (fun _ _ => rfl)
    · obtain ⟨k1, k2, k3, k4, k5⟩ := hk
      rcases k2 with e | e | e | e
      · rw [(k3 e).1] at hu; cases hu
      · obtain ⟨-, -, u', y3, y4, -, -, y7⟩ := k4 (Or.inl e); rw [y3] at hu; cases hu; have := tz0 u (by omega); omega
      · obtain ⟨-, -, u', y3, y4, -, -, y7⟩ := k4 (Or.inr e); rw [y3] at hu; cases hu; have := tz0 u (by omega); omega
      · rw [(k5 e).1] at hu; cases hu
    · have := rl_sc2 h (n := 0) (by decide) q hq
      have := tz0 q (by rcases this with e | e | e <;> omega)
      rw [axn_a (by omega)]
theorem fro_nw {T : Nat → Nat} {N : Nat → Int} {I : Nat → Int → Int} {R : Nat → Int → Option Nat} {a o z : Nat} {k : Int} {row : Int → Int} (h1 : a + 197 ≤ o) (h2 : o + 37 ≤ z) : fro a o T N I R (ax_n T z 13) (ax_n N z k) (ax_n I z row) (ax_n R z (fun _ => none)) := fun q hq => ⟨axn_a (by omega), axn_a (by omega), axn_a (by omega), axn_a (by omega)⟩
theorem fro_sc {T : Nat → Nat} {N : Nat → Int} {I J : Nat → Int → Int} {R S : Nat → Int → Option Nat} {a o : Nat} (h : scK T N a I J R S) (h1 : a + 197 ≤ o) : fro a o T N I R T N J S := fun q hq => ⟨rfl, rfl, (h.1 q (by omega)).1, (h.1 q (by omega)).2⟩
theorem fro.tr {a o : Nat} {T T1 T2 : Nat → Nat} {N N1 N2 : Nat → Int} {I I1 I2 : Nat → Int → Int} {R R1 R2 : Nat → Int → Option Nat} (h : fro a o T N I R T1 N1 I1 R1) (k : fro a o T1 N1 I1 R1 T2 N2 I2 R2) : fro a o T N I R T2 N2 I2 R2 := fun q hq => by
  obtain ⟨h1, h2, h3, h4⟩ := h q hq
  obtain ⟨k1, k2, k3, k4⟩ := k q hq
  exact ⟨k1.trans h1, k2.trans h2, k3.trans h3, k4.trans h4⟩

set_option maxHeartbeats 4000000 in
set_option maxRecDepth 100000 in
theorem c_forget {G : ax_G} {T : Nat → Nat} {N : Nat → Int} {I : Nat → Int → Int} {R : Nat → Int → Option Nat} {z a o : Nat} {σ : Nat → Int → Int} {A w : Int → Nat} (h : RelA G T N I R z a o σ A w) (hI : miC σ o) (hR : miR σ o) {k : Int} (rk : ax_r k) : axM G YX11_forget 1 [vR a, vI k] T N I R z 0 0 (rPX G T N I R z a o (vI (fg σ o k).1) (fg σ o k).2) := by
  refine ax_enter (by decide) (Nat.le_of_ble_eq_true rfl) (ax_cat rfl) (fun f hC => ?_)
  show axX G f 0 0 _ 0 [vR a, vI k] [] T N I R z 0 0
  have hx := rl_fx h
  have b1 := fx_b1 hx
  have hrs := rl_rs h
  have hl9 := rsL_len hR
  have hrA := c_resolutionAt (G := G) (T := T) (N := N) (I := I) (R := R) (z := z) (k := k) (fx_mg hx).2 (by omega) rk
  by_cases hk : 0 ≤ k ∧ k < σ o 30
  · have hfg := fg_rs hR hk
    have e1 : (fg σ o k).1 = σ o 30 - 1 := by unfold fg; rw [if_pos hk]
    rw [e1]
    obtain ⟨X, hX⟩ : ∃ X, X = (fg σ o k).2 := ⟨_, rfl⟩
    rw [← hX] at hfg ⊢
    obtain ⟨y1, y2, y3, y4⟩ := hfg
    obtain ⟨q, q1, ⟨t1, -⟩, -⟩ := hrs.2.2 _ _ (rsL_at (σ := σ) (o := o) (j := k.toNat) (by omega))
    rw [show ((k.toNat : Nat) : Int) = k by omega] at q1
    rw [if_pos (by omega), q1] at hrA
    refine x_aload_n (pc := 0) hC dX11_forget_0 rfl ?_
    refine x_getO (pc := 1) hC gf_X11_36 dX11_forget_1 (fx_ta hx) (fx_mg hx).1 ?_
    refine x_iload_n (pc := 4) hC dX11_forget_4 rfl ?_
    refine x_mV (pc := 5) hC cv_X11_225 dX11_forget_5 hrA (fx_mg hx).2.1 rfl (by decide) rfl rfl (Nat.le_of_ble_eq_true rfl) ?_
    dsimp only [Option.toList, List.cons_append, List.nil_append]
    refine x_ifnonnull (pc := 8) hC 13 dX11_forget_8 (by decide) (fun _ _ => ?_) (fun h => by cases h)
    refine x_aload_n (pc := 13) hC dX11_forget_13 rfl ?_
    refine x_getO (pc := 14) hC gf_X11_36 dX11_forget_14 (fx_ta hx) (fx_mg hx).1 ?_
    refine x_iload_n (pc := 17) hC dX11_forget_17 rfl ?_
    refine x_rV (pc := 18) hC cv_X11_238 dX11_forget_18 (c_removeResolution (fx_mg hx).2 (rl_re h) hk.1 (by omega)) (fx_mg hx).2.1 rfl (by decide) rfl rfl (Nat.le_of_ble_eq_true rfl) ?_
    rintro v9 I5 S5 ⟨rfl, z1, z2, z3, z5⟩
    dsimp only [Option.toList, List.nil_append]
    refine x_aload_n (pc := 21) hC dX11_forget_21 rfl ?_
    refine x_getO (pc := 22) hC gf_X11_36 dX11_forget_22 (fx_ta hx) (Eq.trans (congrFun (z2 a (by omega)) 5) (fx_mg hx).1) ?_
    refine x_getI (pc := 25) hC gf_X11_207 dX11_forget_25 (fx_mg hx).2.1 ?_
    refine x_iret (pc := 28) hC rfl dX11_forget_28 ?_
    rw [z1, axu_s, hrs.1, hl9]
    refine ⟨rfl, fun p hp => ⟨rfl, rfl, axu_row (by omega), z2 p (by omega)⟩, Nat.le_refl _, A, w, ?_⟩
    have hlen : ((rsL σ o).eraseIdx k.toNat).length = (rsL σ o).length - 1 := List.length_eraseIdx_of_lt (by omega)
    refine rl_gen h (fun p h1 h2 h3 => axu_row h3) (fun j hj => by rw [axu_a (by omega)]) (by rw [axu_a (by omega), y3 0 (by decide)]; exact rl_f h) (by rw [axu_a (by omega), y3 1 (by decide)]; exact rl_t h) (fun p h1 h2 => z2 p h2) (fun j h0 h1 h3 => y3 j h3) (fun p h1 h2 h3 => y4 p h1 h3) (fun b h0 h1 => by rw [z2 (a + 3) (by omega), y4 (o + 7) (by omega) (by omega)]; exact rl_tp h b h0 h1) ⟨?_, ?_, fun j p hp => ?_⟩ (fun j v a1 a2 hv => ?_) (fun _ => by unfold thR; rw [y4 (o + 2) (by omega) (by omega), y4 (o + 7) (by omega) (by omega), y3 42 (by decide), y3 41 (by decide)])
    · rw [axu_s, y1, hlen]; omega
    · rw [y1, hlen]; omega
    · rw [y1, List.getElem?_eraseIdx] at hp
      have hj : (j : Int) < σ o 30 - 1 := by
        by_cases hjk : j < k.toNat
        · rw [if_pos hjk] at hp; have := (List.getElem?_eq_some_iff.mp hp).1; omega
        · rw [if_neg hjk] at hp; have := (List.getElem?_eq_some_iff.mp hp).1; omega
      have z4 := z3 j (by omega) (by omega)
      by_cases hjk : j < k.toNat
      · rw [if_pos hjk] at hp
        rw [if_pos (by omega)] at z4
        obtain ⟨q, x1, x2⟩ := hrs.2.2 j p hp
        exact ⟨q, z4.trans x1, x2⟩
      · rw [if_neg hjk] at hp
        rw [if_neg (by omega)] at z4
        obtain ⟨q, x1, x2⟩ := hrs.2.2 (j + 1) p hp
        exact ⟨q, z4.trans (by rw [← x1]; rfl), x2⟩
    · by_cases hj : j < σ o 30 - 1
      · rw [z3 j a1 (by omega)] at hv
        split at hv
        · exact (rl_r7 h).1 j v a1 a2 hv
        · exact (rl_r7 h).1 (j + 1) v (by omega) (by omega) hv
      · rw [z5 j (by omega)] at hv
        exact (rl_r7 h).1 j v a1 a2 hv
  · rw [if_neg (by omega)] at hrA
    unfold fg
    rw [if_neg hk]
    refine x_aload_n (pc := 0) hC dX11_forget_0 rfl ?_
    refine x_getO (pc := 1) hC gf_X11_36 dX11_forget_1 (fx_ta hx) (fx_mg hx).1 ?_
    refine x_iload_n (pc := 4) hC dX11_forget_4 rfl ?_
    refine x_mV (pc := 5) hC cv_X11_225 dX11_forget_5 hrA (fx_mg hx).2.1 rfl (by decide) rfl rfl (Nat.le_of_ble_eq_true rfl) ?_
    dsimp only [Option.toList, List.cons_append, List.nil_append]
    refine x_ifnonnull (pc := 8) hC 13 dX11_forget_8 (by decide) (fun _ h => by cases h) (fun _ => ?_)
    refine x_iconst (pc := 11) hC dX11_forget_11 ?_
    refine x_iret (pc := 12) hC rfl dX11_forget_12 ?_
    exact rl_p0 h

set_option maxHeartbeats 4000000 in
set_option maxRecDepth 100000 in
theorem c_swaps {G : ax_G} {T : Nat → Nat} {N : Nat → Int} {I : Nat → Int → Int} {R : Nat → Int → Option Nat} {z a o : Nat} {σ : Nat → Int → Int} {A w : Int → Nat} (h : RelA G T N I R z a o σ A w) (hI : miC σ o) (hR : miR σ o) {c : Int} (rc : ax_r c) : axM G YX11_swaps 4 [vR a, vI c] T N I R z 1 16 (rPX G T N I R z a o (vI (swR σ o c)) σ) := by
  refine ax_enter (by decide) (Nat.le_of_ble_eq_true rfl) (ax_cat rfl) (fun f hC => ?_)
  show axX G f 1 16 _ 0 [vR a, vI c, vU, vU, vU, vU] [] T N I R z 1 16
  have hx := rl_fx h
  have b0 := fx_b0 hx
  have b1 := fx_b1 hx
  have b2 := fx_b2 hx
  unfold swR
  by_cases hc : 0 ≤ c ∧ c < σ o 2
  · rw [if_pos hc]
    obtain ⟨c1, c2, c3, -⟩ := (rl_cs h).2 c hc.1 hc.2
    by_cases hc0 : c = 0
    · rw [if_pos (Or.inl hc0)]
      rw [if_pos hc0] at c3
      refine x_aload_n (pc := 0) hC dX11_swaps_0 rfl ?_
      refine x_iload_n (pc := 1) hC dX11_swaps_1 rfl ?_
      refine x_mV (pc := 2) hC cv_X11_123 dX11_swaps_2 (rl_at h hI hc) (fx_ta hx) rfl (by decide) rfl rfl (Nat.le_of_ble_eq_true rfl) ?_
      dsimp only [Option.toList, List.cons_append, List.nil_append]
      refine x_astore_n (pc := 5) hC dX11_swaps_5 (Nat.le_of_ble_eq_true rfl) ?_
      dsimp only [List.set]
      refine x_aload_n (pc := 6) hC dX11_swaps_6 rfl ?_
      refine x_ifnonnull (pc := 7) hC 12 dX11_swaps_7 (by decide) (fun _ _ => ?_) (fun h => by cases h)
      refine x_aload_n (pc := 12) hC dX11_swaps_12 rfl ?_
      refine x_getO (pc := 13) hC (gp_X11_129 c1) dX11_swaps_13 rfl c3 ?_
      refine x_astore_n (pc := 16) hC dX11_swaps_16 (Nat.le_of_ble_eq_true rfl) ?_
      dsimp only [List.set]
      refine x_aload_n (pc := 17) hC dX11_swaps_17 rfl ?_
      refine x_ifnonnull (pc := 18) hC 25 dX11_swaps_18 (by decide) (fun _ h => by cases h) (fun _ => ?_)
      refine x_null (pc := 21) hC dX11_swaps_21 ?_
      refine x_goto (pc := 22) hC 29 dX11_swaps_22 (by decide) ?_
      refine x_astore (pc := 29) hC dX11_swaps_29 (Nat.le_of_ble_eq_true rfl) ?_
      dsimp only [List.set]
      refine x_aload_n (pc := 31) hC dX11_swaps_31 rfl ?_
      refine x_ifnull (pc := 32) hC 40 dX11_swaps_32 (by decide) (fun _ => ?_) (fun _ h => by cases h)
      refine x_bipush (pc := 40) hC dX11_swaps_40 (by decide) ?_
      refine x_iret (pc := 42) hC rfl dX11_swaps_42 ?_
      exact rl_p0 h
    · rw [if_neg hc0] at c3
      have hp := hI.2.2.1.2 c (by omega) hc.2
      obtain ⟨p1, p2, p3, -⟩ := (rl_cs h).2 (σ (o + 2) c) hp.1 (by omega)
      by_cases hp0 : (σ (o + 2) c) = 0
      · rw [if_pos (Or.inr hp0)]
        rw [if_pos hp0] at p3
        refine x_aload_n (pc := 0) hC dX11_swaps_0 rfl ?_
        refine x_iload_n (pc := 1) hC dX11_swaps_1 rfl ?_
        refine x_mV (pc := 2) hC cv_X11_123 dX11_swaps_2 (rl_at h hI hc) (fx_ta hx) rfl (by decide) rfl rfl (Nat.le_of_ble_eq_true rfl) ?_
        dsimp only [Option.toList, List.cons_append, List.nil_append]
        refine x_astore_n (pc := 5) hC dX11_swaps_5 (Nat.le_of_ble_eq_true rfl) ?_
        dsimp only [List.set]
        refine x_aload_n (pc := 6) hC dX11_swaps_6 rfl ?_
        refine x_ifnonnull (pc := 7) hC 12 dX11_swaps_7 (by decide) (fun _ _ => ?_) (fun h => by cases h)
        refine x_aload_n (pc := 12) hC dX11_swaps_12 rfl ?_
        refine x_getO (pc := 13) hC (gp_X11_129 c1) dX11_swaps_13 rfl c3 ?_
        refine x_astore_n (pc := 16) hC dX11_swaps_16 (Nat.le_of_ble_eq_true rfl) ?_
        dsimp only [List.set]
        refine x_aload_n (pc := 17) hC dX11_swaps_17 rfl ?_
        refine x_ifnonnull (pc := 18) hC 25 dX11_swaps_18 (by decide) (fun _ _ => ?_) (fun h => by cases h)
        refine x_aload_n (pc := 25) hC dX11_swaps_25 rfl ?_
        refine x_getO (pc := 26) hC (gp_X11_129 p1) dX11_swaps_26 rfl p3 ?_
        refine x_astore (pc := 29) hC dX11_swaps_29 (Nat.le_of_ble_eq_true rfl) ?_
        dsimp only [List.set]
        refine x_aload_n (pc := 31) hC dX11_swaps_31 rfl ?_
        refine x_ifnull (pc := 32) hC 40 dX11_swaps_32 (by decide) (fun h => by cases h) (fun _ _ => ?_)
        refine x_aload (pc := 35) hC dX11_swaps_35 rfl ?_
        refine x_ifnonnull (pc := 37) hC 43 dX11_swaps_37 (by decide) (fun _ h => by cases h) (fun _ => ?_)
        refine x_bipush (pc := 40) hC dX11_swaps_40 (by decide) ?_
        refine x_iret (pc := 42) hC rfl dX11_swaps_42 ?_
        exact rl_p0 h
      · rw [if_neg (fun h9 => h9.elim hc0 hp0)]
        rw [if_neg hp0] at p3
        have hg := hI.2.2.1.2 (σ (o + 2) c) (by omega) (by omega)
        have hcg : (σ (o + 2) (σ (o + 2) c)) < σ o 2 := by omega
        have hcp : (σ (o + 2) c) < σ o 2 := by omega
        have wc := rl_wo h hc.1 hc.2
        have wp := rl_wo h hp.1 hcp
        have wg := rl_wo h hg.1 hcg
        have g1 := wg.2.2.2.1
        have hmg := cl_mg (wd := -9) h hR (by decide) wp.1 wg.1 wc.1 (rl_row h hp.1 hcp).1 (rl_row h hg.1 hcg).1 (rl_row h hc.1 hc.2).1 wp.2.1 wg.2.1 wc.2.1
        have hcf := mrgL_c (rsL σ o) (rowL σ o (σ (o + 2) c)) (rowL σ o (σ (o + 2) (σ (o + 2) c))) (rowL σ o c)
        have hrl : ((rowL σ o (σ (o + 2) c)).length : Int) = σ (o + 6) (σ (o + 2) c) := rowL_len hI.2.1 _
        have hb16 := hI.2.1.2 (σ (o + 2) c)
        have hrg : ((rowL σ o (σ (o + 2) (σ (o + 2) c))).length : Int) = σ (o + 6) (σ (o + 2) (σ (o + 2) c)) := rowL_len hI.2.1 _
        have hb17 := hI.2.1.2 (σ (o + 2) (σ (o + 2) c))
        obtain ⟨M, hM⟩ : ∃ M, M = (mrgL (rsL σ o) (rowL σ o (σ (o + 2) c)) (rowL σ o (σ (o + 2) (σ (o + 2) c))) (rowL σ o c)) := ⟨_, rfl⟩
        rw [← hM] at hcf hmg ⊢
        refine x_aload_n (pc := 0) hC dX11_swaps_0 rfl ?_
        refine x_iload_n (pc := 1) hC dX11_swaps_1 rfl ?_
        refine x_mV (pc := 2) hC cv_X11_123 dX11_swaps_2 (rl_at h hI hc) (fx_ta hx) rfl (by decide) rfl rfl (Nat.le_of_ble_eq_true rfl) ?_
        dsimp only [Option.toList, List.cons_append, List.nil_append]
        refine x_astore_n (pc := 5) hC dX11_swaps_5 (Nat.le_of_ble_eq_true rfl) ?_
        dsimp only [List.set]
        refine x_aload_n (pc := 6) hC dX11_swaps_6 rfl ?_
        refine x_ifnonnull (pc := 7) hC 12 dX11_swaps_7 (by decide) (fun _ _ => ?_) (fun h => by cases h)
        refine x_aload_n (pc := 12) hC dX11_swaps_12 rfl ?_
        refine x_getO (pc := 13) hC (gp_X11_129 c1) dX11_swaps_13 rfl c3 ?_
        refine x_astore_n (pc := 16) hC dX11_swaps_16 (Nat.le_of_ble_eq_true rfl) ?_
        dsimp only [List.set]
        refine x_aload_n (pc := 17) hC dX11_swaps_17 rfl ?_
        refine x_ifnonnull (pc := 18) hC 25 dX11_swaps_18 (by decide) (fun _ _ => ?_) (fun h => by cases h)
        refine x_aload_n (pc := 25) hC dX11_swaps_25 rfl ?_
        refine x_getO (pc := 26) hC (gp_X11_129 p1) dX11_swaps_26 rfl p3 ?_
        refine x_astore (pc := 29) hC dX11_swaps_29 (Nat.le_of_ble_eq_true rfl) ?_
        dsimp only [List.set]
        refine x_aload_n (pc := 31) hC dX11_swaps_31 rfl ?_
        refine x_ifnull (pc := 32) hC 40 dX11_swaps_32 (by decide) (fun h => by cases h) (fun _ _ => ?_)
        refine x_aload (pc := 35) hC dX11_swaps_35 rfl ?_
        refine x_ifnonnull (pc := 37) hC 43 dX11_swaps_37 (by decide) (fun _ _ => ?_) (fun h => by cases h)
        refine x_aload_n (pc := 43) hC dX11_swaps_43 rfl ?_
        refine x_getO (pc := 44) hC gf_X11_36 dX11_swaps_44 (fx_ta hx) (fx_mg hx).1 ?_
        refine x_aload_n (pc := 47) hC dX11_swaps_47 rfl ?_
        refine x_getO (pc := 48) hC (gp_X11_133 p1) dX11_swaps_48 rfl wp.2.2.1 ?_
        refine x_aload (pc := 51) hC dX11_swaps_51 rfl ?_
        refine x_getO (pc := 53) hC (gp_X11_133 g1) dX11_swaps_53 rfl wg.2.2.1 ?_
        refine x_aload_n (pc := 56) hC dX11_swaps_56 rfl ?_
        refine x_getO (pc := 57) hC (gp_X11_133 c1) dX11_swaps_57 rfl wc.2.2.1 ?_
        refine x_bipush (pc := 60) hC dX11_swaps_60 (by decide) ?_
        refine x_rV (pc := 62) hC cv_X11_187 dX11_swaps_62 hmg (fx_mg hx).2.1 rfl (by decide) rfl rfl (Nat.le_of_ble_eq_true rfl) ?_
        rintro v9 J1 S1 ⟨rfl, mV, ⟨m1, m2⟩, m3, m4⟩
        dsimp only [Option.toList, List.nil_append]
        have s1 : scK T N a I J1 R S1 := sc_mg mV
        have h1 := rl_sc h s1
        have hx1 := rl_fx h1
        obtain ⟨-, ⟨x1, x2, x3⟩, -⟩ := mV
        have x4 := x1.1
        refine x_aload_n (pc := 65) hC dX11_swaps_65 rfl ?_
        refine x_getO (pc := 66) hC gf_X11_36 dX11_swaps_66 (fx_ta hx) (fx_mg hx1).1 ?_
        refine x_getI (pc := 69) hC gf_X11_191 dX11_swaps_69 (fx_mg hx1).2.1 ?_
        rw [x2]
        refine x_if_gt (pc := 72) hC 87 dX11_swaps_72 (by decide) (by omega) (fun b72 => ?_) (fun b72 => ?_)
        · refine x_iconst (pc := 87) hC dX11_swaps_87 ?_
          refine x_iret (pc := 88) hC rfl dX11_swaps_88 ?_
          rw [if_pos (by omega)]
          exact ⟨rfl, fro_sc s1 b1, Nat.le_refl _, A, w, h1⟩
        · refine x_aload_n (pc := 75) hC dX11_swaps_75 rfl ?_
          refine x_getO (pc := 76) hC gf_X11_36 dX11_swaps_76 (fx_ta hx) (fx_mg hx1).1 ?_
          refine x_getI (pc := 79) hC gf_X11_194 dX11_swaps_79 (fx_mg hx1).2.1 ?_
          refine x_bipush (pc := 82) hC dX11_swaps_82 (by decide) ?_
          rw [x4]
          refine x_icmp_le (pc := 84) hC 89 dX11_swaps_84 (by decide) (by omega) (by omega) (fun b84 => ?_) (fun b84 => ?_)
          · refine x_aload_n (pc := 89) hC dX11_swaps_89 rfl ?_
            refine x_getO (pc := 90) hC gf_X11_36 dX11_swaps_90 (fx_ta hx) (fx_mg hx1).1 ?_
            refine x_callV (pc := 93) hC cv_X11_195 dX11_swaps_93 (c_copyResult (fx_mg hx1).2 x1 m1 (by omega) (by omega)) (fx_mg hx1).2.1 rfl (by decide) (by omega) (by omega) rfl rfl (Nat.le_of_ble_eq_true rfl) (fun _ _ _ _ _ _ hq => ?_)
            obtain ⟨rfl, rfl, rfl, rfl, rfl, row, rfl, hrow⟩ := hq
            dsimp only [Option.toList, List.cons_append, List.nil_append]
            have h2 : RelA G (ax_n T z 13) (ax_n N z (M.1.length : Int)) (ax_n J1 z row) (ax_n S1 z (fun _ => none)) (z + 1) a o σ A w := rl_nw h1
            have hx2 := rl_fx h2
            have wc2 := rl_wo h2 hc.1 hc.2
            have wp2 := rl_wo h2 hp.1 hcp
            have wg2 := rl_wo h2 hg.1 hcg
            have hzr : rwS (ax_n T z 13) (ax_n N z (M.1.length : Int)) (ax_n J1 z row) z := by
              unfold rwS
              rw [axn_s, axn_s, axn_s]
              refine ⟨rfl, by omega, fun j j0 j1 => m2 _ ?_⟩
              rw [← hrow]
              exact seg_mem.mpr ⟨j, j0, j1, rfl⟩
            have hmg2 := cl_mg (wd := -9) (B2 := M.1) h2 hR (by decide) wg2.1 hzr wp2.1 (rl_row h2 hg.1 hcg).1 (by rw [axn_s, axn_s]; exact hrow) (rl_row h2 hp.1 hcp).1 wg2.2.1 (by omega) wp2.2.1
            have hcf2 := mrgL_c (rsL σ o) (rowL σ o (σ (o + 2) (σ (o + 2) c))) M.1 (rowL σ o (σ (o + 2) c))
            obtain ⟨M2, hM2⟩ : ∃ M2, M2 = (mrgL (rsL σ o) (rowL σ o (σ (o + 2) (σ (o + 2) c))) M.1 (rowL σ o (σ (o + 2) c))) := ⟨_, rfl⟩
            rw [← hM2] at hcf2 hmg2 ⊢
            refine x_astore (pc := 96) hC dX11_swaps_96 (Nat.le_of_ble_eq_true rfl) ?_
            dsimp only [List.set]
            refine x_aload_n (pc := 98) hC dX11_swaps_98 rfl ?_
            refine x_getO (pc := 99) hC gf_X11_36 dX11_swaps_99 (fx_ta hx2) (fx_mg hx2).1 ?_
            refine x_aload (pc := 102) hC dX11_swaps_102 rfl ?_
            refine x_getO (pc := 104) hC (gp_X11_133 wg2.2.2.2.1) dX11_swaps_104 rfl wg2.2.2.1 ?_
            refine x_aload (pc := 107) hC dX11_swaps_107 rfl ?_
            refine x_aload_n (pc := 109) hC dX11_swaps_109 rfl ?_
            refine x_getO (pc := 110) hC (gp_X11_133 wp2.2.2.2.1) dX11_swaps_110 rfl wp2.2.2.1 ?_
            refine x_bipush (pc := 113) hC dX11_swaps_113 (by decide) ?_
            refine x_rV (pc := 115) hC cv_X11_187 dX11_swaps_115 hmg2 (fx_mg hx2).2.1 rfl (by decide) rfl rfl (Nat.le_of_ble_eq_true rfl) ?_
            rintro v9 J3 S3 ⟨rfl, mV2, ⟨n1, n2⟩, n3, n4⟩
            dsimp only [Option.toList, List.nil_append]
            have s3 : scK (ax_n T z 13) (ax_n N z (M.1.length : Int)) a (ax_n J1 z row) J3 (ax_n S1 z (fun _ => none)) S3 := sc_mg mV2
            have h3 := rl_sc h2 s3
            have hx3 := rl_fx h3
            obtain ⟨-, ⟨y1, y2, y3⟩, -⟩ := mV2
            have wc3 := rl_wo h3 hc.1 hc.2
            have rc3 := rl_row h3 hc.1 hc.2
            have lc3 : ((rowL σ o c).length : Int) = σ (o + 6) c := rowL_len hI.2.1 _
            have lc4 := hI.2.1.2 c
            have hfr : fro a o T N I R (ax_n T z 13) (ax_n N z (M.1.length : Int)) J3 S3 := (fro_sc s1 b1).tr ((fro_nw b1 b2).tr (fro_sc s3 b1))
            refine x_aload_n (pc := 118) hC dX11_swaps_118 rfl ?_
            refine x_getO (pc := 119) hC gf_X11_36 dX11_swaps_119 (fx_ta hx2) (fx_mg hx3).1 ?_
            refine x_getI (pc := 122) hC gf_X11_191 dX11_swaps_122 (fx_mg hx3).2.1 ?_
            rw [y2]
            refine x_if_ne (pc := 125) hC 146 dX11_swaps_125 (by decide) (by omega) (fun b125 => ?_) (fun b125 => ?_)
            · refine x_iconst (pc := 146) hC dX11_swaps_146 ?_
              refine x_iret (pc := 147) hC rfl dX11_swaps_147 ?_
              rw [if_neg (by omega)]
              have hno : ¬ (M2.2.1 = 0 ∧ rowL σ o c = M2.1) := fun h9 => by
                first
                | exact b139 h9.2.symm
                | exact b125 h9.1
              rw [bI_f hno]
              exact ⟨rfl, hfr, by omega, A, w, h3⟩
            · refine x_aload_n (pc := 128) hC dX11_swaps_128 rfl ?_
              refine x_getO (pc := 129) hC gf_X11_36 dX11_swaps_129 (fx_ta hx2) (fx_mg hx3).1 ?_
              refine x_aload_n (pc := 132) hC dX11_swaps_132 rfl ?_
              refine x_getO (pc := 133) hC (gp_X11_133 wc2.2.2.2.1) dX11_swaps_133 rfl wc3.2.2.1 ?_
              refine x_mV (pc := 136) hC cv_X11_199 dX11_swaps_136 (c_resultEquals (l := rowL σ o c) (fx_mg hx3).2 y1 n1 n2 wc3.1.1 (by rw [rc3.2]; exact lc3.symm) (by rw [lc3, ← rc3.2]; exact rc3.1) (by omega) (fun v hv => by rw [← rc3.1] at hv; obtain ⟨j, j0, j1, rfl⟩ := seg_mem.mp hv; exact wc3.1.2.2 j j0 j1)) (fx_mg hx3).2.1 rfl (by decide) rfl rfl (Nat.le_of_ble_eq_true rfl) ?_
              dsimp only [Option.toList, List.cons_append, List.nil_append]
              refine x_ifB_eq (pc := 139) hC 146 dX11_swaps_139 (by decide) (fun b139 => ?_) (fun b139 => ?_)
              · refine x_iconst (pc := 146) hC dX11_swaps_146 ?_
                refine x_iret (pc := 147) hC rfl dX11_swaps_147 ?_
                rw [if_neg (by omega)]
                have hno : ¬ (M2.2.1 = 0 ∧ rowL σ o c = M2.1) := fun h9 => by
                  first
                  | exact b139 h9.2.symm
                  | exact b125 h9.1
                rw [bI_f hno]
                exact ⟨rfl, hfr, by omega, A, w, h3⟩
              · refine x_iconst (pc := 142) hC dX11_swaps_142 ?_
                refine x_goto (pc := 143) hC 147 dX11_swaps_143 (by decide) ?_
                refine x_iret (pc := 147) hC rfl dX11_swaps_147 ?_
                rw [if_neg (by omega)]
                rw [bI_t (show M2.2.1 = 0 ∧ rowL σ o c = M2.1 from ⟨by omega, b139.symm⟩)]
                exact ⟨rfl, hfr, by omega, A, w, h3⟩
          · refine x_iconst (pc := 87) hC dX11_swaps_87 ?_
            refine x_iret (pc := 88) hC rfl dX11_swaps_88 ?_
            rw [if_pos (by omega)]
            exact ⟨rfl, fro_sc s1 b1, Nat.le_refl _, A, w, h1⟩
  · rw [if_neg hc]
    refine x_aload_n (pc := 0) hC dX11_swaps_0 rfl ?_
    refine x_iload_n (pc := 1) hC dX11_swaps_1 rfl ?_
    refine x_mV (pc := 2) hC cv_X11_123 dX11_swaps_2 (rl_no h hI rc hc) (fx_ta hx) rfl (by decide) rfl rfl (Nat.le_of_ble_eq_true rfl) ?_
    dsimp only [Option.toList, List.cons_append, List.nil_append]
    refine x_astore_n (pc := 5) hC dX11_swaps_5 (Nat.le_of_ble_eq_true rfl) ?_
    dsimp only [List.set]
    refine x_aload_n (pc := 6) hC dX11_swaps_6 rfl ?_
    refine x_ifnonnull (pc := 7) hC 12 dX11_swaps_7 (by decide) (fun _ h => by cases h) (fun _ => ?_)
    refine x_iconst (pc := 10) hC dX11_swaps_10 ?_
    refine x_iret (pc := 11) hC rfl dX11_swaps_11 ?_
    exact rl_p0 h

