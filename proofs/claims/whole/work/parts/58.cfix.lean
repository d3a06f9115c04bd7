/-! THE CLASS: its object; the small methods -/
def fxS (G : ax_G) (T : Nat → Nat) (N : Nat → Int) (R : Nat → Int → Option Nat) (z a o : Nat) : Prop := (G.2.2.2.1 ≤ a) ∧ (a + 197 ≤ o) ∧ (o + 37 ≤ z) ∧ ((T G.2.2.2.2.1 = 13 ∧ N G.2.2.2.2.1 = 0) ∧ G.2.2.2.2.1 < G.2.2.2.1) ∧ (∀ q, T q ≠ 99 → q < z) ∧ (T a = 11) ∧ (R a 0 = some (a + 1) ∧ T (a + 1) = 10) ∧ (R a 1 = some (a + 2) ∧ T (a + 2) = 15 ∧ N (a + 2) = 24) ∧ (R a 3 = some (a + 3) ∧ T (a + 3) = 15 ∧ N (a + 3) = 4) ∧ (R a 4 = some (a + 4) ∧ T (a + 4) = 17 ∧ N (a + 4) = 5) ∧ (∀ k : Nat, k < 5 → R (a + 4) k = some (a + 177 + k) ∧ T (a + 177 + k) = 9) ∧ (R a 5 = some (a + 5) ∧ mgT T N R (a + 5)) ∧ (R a 6 = some (a + 98) ∧ mtT T N R (a + 98)) ∧ (R a 7 = some (a + 137) ∧ mtT T N R (a + 137)) ∧ (R a 8 = some (a + 183) ∧ rpT T N R (a + 183) (a + 184) ∧ R (a + 183) 0 = none) ∧ (R a 9 = some (a + 189) ∧ rpT T N R (a + 189) (a + 192) ∧ R (a + 189) 0 = some (a + 190) ∧ T (a + 190) = 5) ∧ (R a 10 = some (a + 176) ∧ T (a + 176) = 13 ∧ N (a + 176) = 100)
theorem fx_b0 {G : ax_G} {T : Nat → Nat} {N : Nat → Int} {R : Nat → Int → Option Nat} {z a o : Nat} (h : fxS G T N R z a o) : G.2.2.2.1 ≤ a := h.1
theorem fx_b1 {G : ax_G} {T : Nat → Nat} {N : Nat → Int} {R : Nat → Int → Option Nat} {z a o : Nat} (h : fxS G T N R z a o) : a + 197 ≤ o := h.2.1
theorem fx_b2 {G : ax_G} {T : Nat → Nat} {N : Nat → Int} {R : Nat → Int → Option Nat} {z a o : Nat} (h : fxS G T N R z a o) : o + 37 ≤ z := h.2.2.1
theorem fx_nl {G : ax_G} {T : Nat → Nat} {N : Nat → Int} {R : Nat → Int → Option Nat} {z a o : Nat} (h : fxS G T N R z a o) : (T G.2.2.2.2.1 = 13 ∧ N G.2.2.2.2.1 = 0) ∧ G.2.2.2.2.1 < G.2.2.2.1 := h.2.2.2.1
theorem fx_tz {G : ax_G} {T : Nat → Nat} {N : Nat → Int} {R : Nat → Int → Option Nat} {z a o : Nat} (h : fxS G T N R z a o) : ∀ q, T q ≠ 99 → q < z := h.2.2.2.2.1
theorem fx_ta {G : ax_G} {T : Nat → Nat} {N : Nat → Int} {R : Nat → Int → Option Nat} {z a o : Nat} (h : fxS G T N R z a o) : T a = 11 := h.2.2.2.2.2.1
theorem fx_tr {G : ax_G} {T : Nat → Nat} {N : Nat → Int} {R : Nat → Int → Option Nat} {z a o : Nat} (h : fxS G T N R z a o) : R a 0 = some (a + 1) ∧ T (a + 1) = 10 := h.2.2.2.2.2.2.1
theorem fx_cm {G : ax_G} {T : Nat → Nat} {N : Nat → Int} {R : Nat → Int → Option Nat} {z a o : Nat} (h : fxS G T N R z a o) : R a 1 = some (a + 2) ∧ T (a + 2) = 15 ∧ N (a + 2) = 24 := h.2.2.2.2.2.2.2.1
theorem fx_tp {G : ax_G} {T : Nat → Nat} {N : Nat → Int} {R : Nat → Int → Option Nat} {z a o : Nat} (h : fxS G T N R z a o) : R a 3 = some (a + 3) ∧ T (a + 3) = 15 ∧ N (a + 3) = 4 := h.2.2.2.2.2.2.2.2.1
theorem fx_sl {G : ax_G} {T : Nat → Nat} {N : Nat → Int} {R : Nat → Int → Option Nat} {z a o : Nat} (h : fxS G T N R z a o) : R a 4 = some (a + 4) ∧ T (a + 4) = 17 ∧ N (a + 4) = 5 := h.2.2.2.2.2.2.2.2.2.1
theorem fx_ss {G : ax_G} {T : Nat → Nat} {N : Nat → Int} {R : Nat → Int → Option Nat} {z a o : Nat} (h : fxS G T N R z a o) : ∀ k : Nat, k < 5 → R (a + 4) k = some (a + 177 + k) ∧ T (a + 177 + k) = 9 := h.2.2.2.2.2.2.2.2.2.2.1
theorem fx_mg {G : ax_G} {T : Nat → Nat} {N : Nat → Int} {R : Nat → Int → Option Nat} {z a o : Nat} (h : fxS G T N R z a o) : R a 5 = some (a + 5) ∧ mgT T N R (a + 5) := h.2.2.2.2.2.2.2.2.2.2.2.1
theorem fx_ch {G : ax_G} {T : Nat → Nat} {N : Nat → Int} {R : Nat → Int → Option Nat} {z a o : Nat} (h : fxS G T N R z a o) : R a 6 = some (a + 98) ∧ mtT T N R (a + 98) := h.2.2.2.2.2.2.2.2.2.2.2.2.1
theorem fx_co {G : ax_G} {T : Nat → Nat} {N : Nat → Int} {R : Nat → Int → Option Nat} {z a o : Nat} (h : fxS G T N R z a o) : R a 7 = some (a + 137) ∧ mtT T N R (a + 137) := h.2.2.2.2.2.2.2.2.2.2.2.2.2.1
theorem fx_cu {G : ax_G} {T : Nat → Nat} {N : Nat → Int} {R : Nat → Int → Option Nat} {z a o : Nat} (h : fxS G T N R z a o) : R a 8 = some (a + 183) ∧ rpT T N R (a + 183) (a + 184) ∧ R (a + 183) 0 = none := h.2.2.2.2.2.2.2.2.2.2.2.2.2.2.1
theorem fx_re {G : ax_G} {T : Nat → Nat} {N : Nat → Int} {R : Nat → Int → Option Nat} {z a o : Nat} (h : fxS G T N R z a o) : R a 9 = some (a + 189) ∧ rpT T N R (a + 189) (a + 192) ∧ R (a + 189) 0 = some (a + 190) ∧ T (a + 190) = 5 := h.2.2.2.2.2.2.2.2.2.2.2.2.2.2.2.1
theorem fx_sc {G : ax_G} {T : Nat → Nat} {N : Nat → Int} {R : Nat → Int → Option Nat} {z a o : Nat} (h : fxS G T N R z a o) : R a 10 = some (a + 176) ∧ T (a + 176) = 13 ∧ N (a + 176) = 100 := h.2.2.2.2.2.2.2.2.2.2.2.2.2.2.2.2

theorem fx_fr {G : ax_G} {T : Nat → Nat} {N : Nat → Int} {R S : Nat → Int → Option Nat} {z a o : Nat} (h : fxS G T N R z a o) (h1 : S a = R a) (h2 : S (a + 4) = R (a + 4)) (h3 : mgT T N S (a + 5)) (h4 : mtT T N S (a + 98)) (h5 : mtT T N S (a + 137)) (h6 : rpT T N S (a + 183) (a + 184)) (h7 : S (a + 183) 0 = R (a + 183) 0) (h8 : rpT T N S (a + 189) (a + 192)) (h9 : S (a + 189) 0 = R (a + 189) 0) : fxS G T N S z a o := by
  unfold fxS
  rw [h1, h2, h7, h9]
  exact ⟨fx_b0 h, fx_b1 h, fx_b2 h, fx_nl h, fx_tz h, fx_ta h, fx_tr h, fx_cm h, fx_tp h, fx_sl h, fx_ss h, ⟨(fx_mg h).1, h3⟩, ⟨(fx_ch h).1, h4⟩, ⟨(fx_co h).1, h5⟩, ⟨(fx_cu h).1, h6, (fx_cu h).2.2⟩, ⟨(fx_re h).1, h8, (fx_re h).2.2⟩, fx_sc h⟩
theorem rpT_le {T T1 : Nat → Nat} {N N1 : Nat → Int} {R R1 : Nat → Int → Option Nat} {r w z : Nat} (h : rpT T N R r w) (eT : ∀ q, q < z → T1 q = T q) (eN : ∀ q, q < z → N1 q = N q) (eR : ∀ q, q < z → R1 q = R q) (hz : r < z ∧ w + 5 ≤ z) : rpT T1 N1 R1 r w := by
  unfold rpT at *
  rw [eT r (by omega), eR r (by omega), eT w (by omega), eN w (by omega), eT (w + 1) (by omega), eN (w + 1) (by omega), eT (w + 2) (by omega), eN (w + 2) (by omega), eT (w + 3) (by omega), eN (w + 3) (by omega), eT (w + 4) (by omega), eN (w + 4) (by omega)]
  exact h
theorem fx_le {G : ax_G} {T T1 : Nat → Nat} {N N1 : Nat → Int} {R R1 : Nat → Int → Option Nat} {z z1 a o : Nat} (h : fxS G T N R z a o) (eT : ∀ q, q < z → T1 q = T q) (eN : ∀ q, q < z → N1 q = N q) (eR : ∀ q, q < z → R1 q = R q) (hz : z ≤ z1) (tz : ∀ q, T1 q ≠ 99 → q < z1) : fxS G T1 N1 R1 z1 a o := by
  have b0 := fx_b0 h
  have b1 := fx_b1 h
  have b2 := fx_b2 h
  have hn := fx_nl h
  have ez : ∀ q, q < a + 197 → T1 q = T q := fun q hq => eT q (by omega)
  have en : ∀ q, q < a + 197 → N1 q = N q := fun q hq => eN q (by omega)
  unfold fxS
  rw [eR a (by omega), eR (a + 4) (by omega), eR (a + 183) (by omega), eR (a + 189) (by omega), eT G.2.2.2.2.1 (by omega), eN G.2.2.2.2.1 (by omega), ez a (by omega), ez (a + 1) (by omega), ez (a + 2) (by omega), ez (a + 3) (by omega), ez (a + 4) (by omega), ez (a + 176) (by omega), ez (a + 190) (by omega), en (a + 2) (by omega), en (a + 3) (by omega), en (a + 4) (by omega), en (a + 176) (by omega)]
  refine ⟨b0, b1, by omega, fx_nl h, tz, fx_ta h, fx_tr h, fx_cm h, fx_tp h, fx_sl h, fun k hk => ?_, ⟨(fx_mg h).1, mgT_le (fx_mg h).2 eT eN eR (by omega)⟩, ⟨(fx_ch h).1, mtT_le (fx_ch h).2 eT eN eR (by omega)⟩, ⟨(fx_co h).1, mtT_le (fx_co h).2 eT eN eR (by omega)⟩, ⟨(fx_cu h).1, rpT_le (fx_cu h).2.1 eT eN eR (by omega), (fx_cu h).2.2⟩, ⟨(fx_re h).1, rpT_le (fx_re h).2.1 eT eN eR (by omega), (fx_re h).2.2⟩, fx_sc h⟩
  rw [ez (a + 177 + k) (by omega)]
  exact fx_ss h k hk
theorem fx_slot {G : ax_G} {T : Nat → Nat} {N : Nat → Int} {R : Nat → Int → Option Nat} {z a o : Nat} (h : fxS G T N R z a o) {s : Int} (h0 : 0 ≤ s) (h1 : s < 5) : R (a + 4) s = some (a + 177 + s.toNat) ∧ T (a + 177 + s.toNat) = 9 := by
  have := fx_ss h s.toNat (by omega)
  rw [show ((s.toNat : Nat) : Int) = s by omega] at this
  exact this

set_option maxHeartbeats 4000000 in
set_option maxRecDepth 100000 in
theorem c_commitAt {G : ax_G} {T : Nat → Nat} {N : Nat → Int} {I : Nat → Int → Int} {R : Nat → Int → Option Nat} {z : Nat} {a o : Nat} (hx : fxS G T N R z a o) {c : Int} (hc : ax_r c) (hn : 0 ≤ I a 2 ∧ I a 2 ≤ 24) : axE G YX11_commitAt 0 [vR a, vI c] T N I R z (some (vO (if 0 ≤ c ∧ c < I a 2 then R (a + 2) c else none))) I := by

  refine ax_enter (by decide) (Nat.le_of_ble_eq_true rfl) (ax_cat rfl) (fun f hC => ?_)
  show axX G f 0 0 _ 0 [vR a, vI c] [] T N I R z 0 0
  refine x_iload_n (pc := 0) hC dX11_commitAt_0 rfl ?_
  refine x_if_lt (pc := 1) hC 21 dX11_commitAt_1 (by decide) (by omega) (fun b1 => ?_) (fun b1 => ?_)
  · refine x_null (pc := 21) hC dX11_commitAt_21 ?_
    refine x_aret (pc := 22) hC rfl (Or.inl ⟨_, rfl⟩) dX11_commitAt_22 ?_
    refine ⟨?_, rfl, rfl, rfl, rfl, rfl⟩
    first
    | (rw [if_pos (by omega)]; done)
    | (rw [if_neg (by omega)]; done)
  · refine x_iload_n (pc := 4) hC dX11_commitAt_4 rfl ?_
    refine x_aload_n (pc := 5) hC dX11_commitAt_5 rfl ?_
    refine x_getI (pc := 6) hC gf_X11_105 dX11_commitAt_6 (fx_ta hx) ?_
    refine x_icmp_ge (pc := 9) hC 21 dX11_commitAt_9 (by decide) (by omega) (by omega) (fun b9 => ?_) (fun b9 => ?_)
    · refine x_null (pc := 21) hC dX11_commitAt_21 ?_
      refine x_aret (pc := 22) hC rfl (Or.inl ⟨_, rfl⟩) dX11_commitAt_22 ?_
      refine ⟨?_, rfl, rfl, rfl, rfl, rfl⟩
      first
      | (rw [if_pos (by omega)]; done)
      | (rw [if_neg (by omega)]; done)
    · refine x_aload_n (pc := 12) hC dX11_commitAt_12 rfl ?_
      refine x_getO (pc := 13) hC gf_X11_20 dX11_commitAt_13 (fx_ta hx) (fx_cm hx).1 ?_
      refine x_iload_n (pc := 16) hC dX11_commitAt_16 rfl ?_
      refine x_aald (pc := 17) hC axEl_15 dX11_commitAt_17 (fx_cm hx).2.1 (by omega) (by rw [(fx_cm hx).2.2]; omega) rfl ?_
      refine x_goto (pc := 18) hC 22 dX11_commitAt_18 (by decide) ?_
      refine x_aret (pc := 22) hC rfl (Or.inl ⟨_, rfl⟩) dX11_commitAt_22 ?_
      refine ⟨?_, rfl, rfl, rfl, rfl, rfl⟩
      first
      | (rw [if_pos (by omega)]; done)
      | (rw [if_neg (by omega)]; done)

set_option maxHeartbeats 4000000 in
set_option maxRecDepth 100000 in
theorem c_tipOf {G : ax_G} {T : Nat → Nat} {N : Nat → Int} {I : Nat → Int → Int} {R : Nat → Int → Option Nat} {z : Nat} {a o : Nat} (hx : fxS G T N R z a o) {c : Int} (hc : ax_r c) : axE G YX11_tipOf 0 [vR a, vI c] T N I R z (some (vO (if 0 ≤ c ∧ c < 4 then R (a + 3) c else none))) I := by

  refine ax_enter (by decide) (Nat.le_of_ble_eq_true rfl) (ax_cat rfl) (fun f hC => ?_)
  show axX G f 0 0 _ 0 [vR a, vI c] [] T N I R z 0 0
  refine x_iload_n (pc := 0) hC dX11_tipOf_0 rfl ?_
  refine x_if_lt (pc := 1) hC 18 dX11_tipOf_1 (by decide) (by omega) (fun b1 => ?_) (fun b1 => ?_)
  · refine x_null (pc := 18) hC dX11_tipOf_18 ?_
    refine x_aret (pc := 19) hC rfl (Or.inl ⟨_, rfl⟩) dX11_tipOf_19 ?_
    refine ⟨?_, rfl, rfl, rfl, rfl, rfl⟩
    first
    | (rw [if_pos (by omega)]; done)
    | (rw [if_neg (by omega)]; done)
  · refine x_iload_n (pc := 4) hC dX11_tipOf_4 rfl ?_
    refine x_iconst (pc := 5) hC dX11_tipOf_5 ?_
    refine x_icmp_ge (pc := 6) hC 18 dX11_tipOf_6 (by decide) (by omega) (by omega) (fun b6 => ?_) (fun b6 => ?_)
    · refine x_null (pc := 18) hC dX11_tipOf_18 ?_
      refine x_aret (pc := 19) hC rfl (Or.inl ⟨_, rfl⟩) dX11_tipOf_19 ?_
      refine ⟨?_, rfl, rfl, rfl, rfl, rfl⟩
      first
      | (rw [if_pos (by omega)]; done)
      | (rw [if_neg (by omega)]; done)
    · refine x_aload_n (pc := 9) hC dX11_tipOf_9 rfl ?_
      refine x_getO (pc := 10) hC gf_X11_24 dX11_tipOf_10 (fx_ta hx) (fx_tp hx).1 ?_
      refine x_iload_n (pc := 13) hC dX11_tipOf_13 rfl ?_
      refine x_aald (pc := 14) hC axEl_15 dX11_tipOf_14 (fx_tp hx).2.1 (by omega) (by rw [(fx_tp hx).2.2]; omega) rfl ?_
      refine x_goto (pc := 15) hC 19 dX11_tipOf_15 (by decide) ?_
      refine x_aret (pc := 19) hC rfl (Or.inl ⟨_, rfl⟩) dX11_tipOf_19 ?_
      refine ⟨?_, rfl, rfl, rfl, rfl, rfl⟩
      first
      | (rw [if_pos (by omega)]; done)
      | (rw [if_neg (by omega)]; done)

set_option maxHeartbeats 4000000 in
set_option maxRecDepth 100000 in
theorem c_slotAt {G : ax_G} {T : Nat → Nat} {N : Nat → Int} {I : Nat → Int → Int} {R : Nat → Int → Option Nat} {z : Nat} {a o : Nat} (hx : fxS G T N R z a o) {c : Int} (hc : ax_r c) : axE G YX11_slotAt 0 [vR a, vI c] T N I R z (some (vO (if 0 ≤ c ∧ c < 5 then R (a + 4) c else none))) I := by

  refine ax_enter (by decide) (Nat.le_of_ble_eq_true rfl) (ax_cat rfl) (fun f hC => ?_)
  show axX G f 0 0 _ 0 [vR a, vI c] [] T N I R z 0 0
  refine x_iload_n (pc := 0) hC dX11_slotAt_0 rfl ?_
  refine x_if_lt (pc := 1) hC 18 dX11_slotAt_1 (by decide) (by omega) (fun b1 => ?_) (fun b1 => ?_)
  · refine x_null (pc := 18) hC dX11_slotAt_18 ?_
    refine x_aret (pc := 19) hC rfl (Or.inl ⟨_, rfl⟩) dX11_slotAt_19 ?_
    refine ⟨?_, rfl, rfl, rfl, rfl, rfl⟩
    first
    | (rw [if_pos (by omega)]; done)
    | (rw [if_neg (by omega)]; done)
  · refine x_iload_n (pc := 4) hC dX11_slotAt_4 rfl ?_
    refine x_iconst (pc := 5) hC dX11_slotAt_5 ?_
    refine x_icmp_ge (pc := 6) hC 18 dX11_slotAt_6 (by decide) (by omega) (by omega) (fun b6 => ?_) (fun b6 => ?_)
    · refine x_null (pc := 18) hC dX11_slotAt_18 ?_
      refine x_aret (pc := 19) hC rfl (Or.inl ⟨_, rfl⟩) dX11_slotAt_19 ?_
      refine ⟨?_, rfl, rfl, rfl, rfl, rfl⟩
      first
      | (rw [if_pos (by omega)]; done)
      | (rw [if_neg (by omega)]; done)
    · refine x_aload_n (pc := 9) hC dX11_slotAt_9 rfl ?_
      refine x_getO (pc := 10) hC gf_X11_29 dX11_slotAt_10 (fx_ta hx) (fx_sl hx).1 ?_
      refine x_iload_n (pc := 13) hC dX11_slotAt_13 rfl ?_
      refine x_aald (pc := 14) hC axEl_17 dX11_slotAt_14 (fx_sl hx).2.1 (by omega) (by rw [(fx_sl hx).2.2]; omega) rfl ?_
      refine x_goto (pc := 15) hC 19 dX11_slotAt_15 (by decide) ?_
      refine x_aret (pc := 19) hC rfl (Or.inl ⟨_, rfl⟩) dX11_slotAt_19 ?_
      refine ⟨?_, rfl, rfl, rfl, rfl, rfl⟩
      first
      | (rw [if_pos (by omega)]; done)
      | (rw [if_neg (by omega)]; done)

set_option maxHeartbeats 4000000 in
set_option maxRecDepth 100000 in
theorem c_elementOr {G : ax_G} {T : Nat → Nat} {N : Nat → Int} {I : Nat → Int → Int} {R : Nat → Int → Option Nat} {z : Nat} {r : Nat} {i : Int} (hr : T r = 13) (hN : 0 ≤ N r ∧ N r ≤ 100000) (hi : ax_r i) : axE G YX11_elementOr 0 [vR r, vI i] T N I R z (some (vI (if 0 ≤ i ∧ i < N r then I r i else -9))) I := by

  refine ax_enter (by decide) (Nat.le_of_ble_eq_true rfl) (ax_cat rfl) (fun f hC => ?_)
  show axX G f 0 0 _ 0 [vR r, vI i] [] T N I R z 0 0
  refine x_iload_n (pc := 0) hC dX11_elementOr_0 rfl ?_
  refine x_if_lt (pc := 1) hC 16 dX11_elementOr_1 (by decide) (by omega) (fun b1 => ?_) (fun b1 => ?_)
  · refine x_bipush (pc := 16) hC dX11_elementOr_16 (by decide) ?_
    refine x_iret (pc := 18) hC rfl dX11_elementOr_18 ?_
    refine ⟨?_, rfl, rfl, rfl, rfl, rfl⟩
    first
    | (rw [if_pos (by omega)]; done)
    | (rw [if_neg (by omega)]; done)
  · refine x_iload_n (pc := 4) hC dX11_elementOr_4 rfl ?_
    refine x_aload_n (pc := 5) hC dX11_elementOr_5 rfl ?_
    refine x_alen (pc := 6) hC dX11_elementOr_6 (by rw [hr]; decide) (by rw [hr]; decide) ?_
    refine x_icmp_ge (pc := 7) hC 16 dX11_elementOr_7 (by decide) (by omega) (by omega) (fun b7 => ?_) (fun b7 => ?_)
    · refine x_bipush (pc := 16) hC dX11_elementOr_16 (by decide) ?_
      refine x_iret (pc := 18) hC rfl dX11_elementOr_18 ?_
      refine ⟨?_, rfl, rfl, rfl, rfl, rfl⟩
      first
      | (rw [if_pos (by omega)]; done)
      | (rw [if_neg (by omega)]; done)
    · refine x_aload_n (pc := 10) hC dX11_elementOr_10 rfl ?_
      refine x_iload_n (pc := 11) hC dX11_elementOr_11 rfl ?_
      refine x_iald (pc := 12) hC dX11_elementOr_12 hr (by omega) (by omega) ?_
      refine x_goto (pc := 13) hC 18 dX11_elementOr_13 (by decide) ?_
      refine x_iret (pc := 18) hC rfl dX11_elementOr_18 ?_
      refine ⟨?_, rfl, rfl, rfl, rfl, rfl⟩
      first
      | (rw [if_pos (by omega)]; done)
      | (rw [if_neg (by omega)]; done)

set_option maxHeartbeats 4000000 in
set_option maxRecDepth 100000 in
theorem c_isLineIndex {G : ax_G} {T : Nat → Nat} {N : Nat → Int} {I : Nat → Int → Int} {R : Nat → Int → Option Nat} {z : Nat} {i : Int} (hi : ax_r i) : axE G YX11_isLineIndex 0 [vI i] T N I R z (some (vI (bI (0 ≤ i ∧ i < 16)))) I := by

  refine ax_enter (by decide) (Nat.le_of_ble_eq_true rfl) (ax_cat rfl) (fun f hC => ?_)
  show axX G f 0 0 _ 0 [vI i] [] T N I R z 0 0
  refine x_iload_n (pc := 0) hC dX11_isLineIndex_0 rfl ?_
  refine x_if_lt (pc := 1) hC 14 dX11_isLineIndex_1 (by decide) (by omega) (fun b1 => ?_) (fun b1 => ?_)
  · refine x_iconst (pc := 14) hC dX11_isLineIndex_14 ?_
    refine x_zret (pc := 15) hC rfl dX11_isLineIndex_15 (Or.inl rfl) ?_
    refine ⟨?_, rfl, rfl, rfl, rfl, rfl⟩
    first
    | (rw [bI_t (show 0 ≤ i ∧ i < 16 by omega)]; done)
    | (rw [bI_f (show ¬ (0 ≤ i ∧ i < 16) by omega)]; done)
  · refine x_iload_n (pc := 4) hC dX11_isLineIndex_4 rfl ?_
    refine x_bipush (pc := 5) hC dX11_isLineIndex_5 (by decide) ?_
    refine x_icmp_ge (pc := 7) hC 14 dX11_isLineIndex_7 (by decide) (by omega) (by omega) (fun b7 => ?_) (fun b7 => ?_)
    · refine x_iconst (pc := 14) hC dX11_isLineIndex_14 ?_
      refine x_zret (pc := 15) hC rfl dX11_isLineIndex_15 (Or.inl rfl) ?_
      refine ⟨?_, rfl, rfl, rfl, rfl, rfl⟩
      first
      | (rw [bI_t (show 0 ≤ i ∧ i < 16 by omega)]; done)
      | (rw [bI_f (show ¬ (0 ≤ i ∧ i < 16) by omega)]; done)
    · refine x_iconst (pc := 10) hC dX11_isLineIndex_10 ?_
      refine x_goto (pc := 11) hC 15 dX11_isLineIndex_11 (by decide) ?_
      refine x_zret (pc := 15) hC rfl dX11_isLineIndex_15 (Or.inr rfl) ?_
      refine ⟨?_, rfl, rfl, rfl, rfl, rfl⟩
      first
      | (rw [bI_t (show 0 ≤ i ∧ i < 16 by omega)]; done)
      | (rw [bI_f (show ¬ (0 ≤ i ∧ i < 16) by omega)]; done)

set_option maxHeartbeats 4000000 in
set_option maxRecDepth 100000 in
theorem c_isShapeIndex {G : ax_G} {T : Nat → Nat} {N : Nat → Int} {I : Nat → Int → Int} {R : Nat → Int → Option Nat} {z : Nat} {i : Int} (hi : ax_r i) : axE G YX11_isShapeIndex 0 [vI i] T N I R z (some (vI (bI (0 ≤ i ∧ i < 51)))) I := by

  refine ax_enter (by decide) (Nat.le_of_ble_eq_true rfl) (ax_cat rfl) (fun f hC => ?_)
  show axX G f 0 0 _ 0 [vI i] [] T N I R z 0 0
  refine x_iload_n (pc := 0) hC dX11_isShapeIndex_0 rfl ?_
  refine x_if_lt (pc := 1) hC 14 dX11_isShapeIndex_1 (by decide) (by omega) (fun b1 => ?_) (fun b1 => ?_)
  · refine x_iconst (pc := 14) hC dX11_isShapeIndex_14 ?_
    refine x_zret (pc := 15) hC rfl dX11_isShapeIndex_15 (Or.inl rfl) ?_
    refine ⟨?_, rfl, rfl, rfl, rfl, rfl⟩
    first
    | (rw [bI_t (show 0 ≤ i ∧ i < 51 by omega)]; done)
    | (rw [bI_f (show ¬ (0 ≤ i ∧ i < 51) by omega)]; done)
  · refine x_iload_n (pc := 4) hC dX11_isShapeIndex_4 rfl ?_
    refine x_bipush (pc := 5) hC dX11_isShapeIndex_5 (by decide) ?_
    refine x_icmp_ge (pc := 7) hC 14 dX11_isShapeIndex_7 (by decide) (by omega) (by omega) (fun b7 => ?_) (fun b7 => ?_)
    · refine x_iconst (pc := 14) hC dX11_isShapeIndex_14 ?_
      refine x_zret (pc := 15) hC rfl dX11_isShapeIndex_15 (Or.inl rfl) ?_
      refine ⟨?_, rfl, rfl, rfl, rfl, rfl⟩
      first
      | (rw [bI_t (show 0 ≤ i ∧ i < 51 by omega)]; done)
      | (rw [bI_f (show ¬ (0 ≤ i ∧ i < 51) by omega)]; done)
    · refine x_iconst (pc := 10) hC dX11_isShapeIndex_10 ?_
      refine x_goto (pc := 11) hC 15 dX11_isShapeIndex_11 (by decide) ?_
      refine x_zret (pc := 15) hC rfl dX11_isShapeIndex_15 (Or.inr rfl) ?_
      refine ⟨?_, rfl, rfl, rfl, rfl, rfl⟩
      first
      | (rw [bI_t (show 0 ≤ i ∧ i < 51 by omega)]; done)
      | (rw [bI_f (show ¬ (0 ≤ i ∧ i < 51) by omega)]; done)

set_option maxHeartbeats 4000000 in
set_option maxRecDepth 100000 in
theorem c_isRange {G : ax_G} {T : Nat → Nat} {N : Nat → Int} {I : Nat → Int → Int} {R : Nat → Int → Option Nat} {z : Nat} {i n l : Int} (hi : ax_r i) (hn : ax_r n) (hl : 0 ≤ l ∧ l ≤ 100000) : axE G YX11_isRange 0 [vI i, vI n, vI l] T N I R z (some (vI (bI (0 ≤ i ∧ 0 ≤ n ∧ i ≤ l ∧ n ≤ l - i)))) I := by

  refine ax_enter (by decide) (Nat.le_of_ble_eq_true rfl) (ax_cat rfl) (fun f hC => ?_)
  show axX G f 0 0 _ 0 [vI i, vI n, vI l] [] T N I R z 0 0
  refine x_iload_n (pc := 0) hC dX11_isRange_0 rfl ?_
  refine x_if_lt (pc := 1) hC 24 dX11_isRange_1 (by decide) (by omega) (fun b1 => ?_) (fun b1 => ?_)
  · refine x_iconst (pc := 24) hC dX11_isRange_24 ?_
    refine x_zret (pc := 25) hC rfl dX11_isRange_25 (Or.inl rfl) ?_
    refine ⟨?_, rfl, rfl, rfl, rfl, rfl⟩
    first
    | (rw [bI_t (show (0 ≤ i ∧ 0 ≤ n ∧ i ≤ l ∧ n ≤ l - i) by omega)]; done)
    | (rw [bI_f (show ¬ (0 ≤ i ∧ 0 ≤ n ∧ i ≤ l ∧ n ≤ l - i) by omega)]; done)
  · refine x_iload_n (pc := 4) hC dX11_isRange_4 rfl ?_
    refine x_if_lt (pc := 5) hC 24 dX11_isRange_5 (by decide) (by omega) (fun b5 => ?_) (fun b5 => ?_)
    · refine x_iconst (pc := 24) hC dX11_isRange_24 ?_
      refine x_zret (pc := 25) hC rfl dX11_isRange_25 (Or.inl rfl) ?_
      refine ⟨?_, rfl, rfl, rfl, rfl, rfl⟩
      first
      | (rw [bI_t (show (0 ≤ i ∧ 0 ≤ n ∧ i ≤ l ∧ n ≤ l - i) by omega)]; done)
      | (rw [bI_f (show ¬ (0 ≤ i ∧ 0 ≤ n ∧ i ≤ l ∧ n ≤ l - i) by omega)]; done)
    · refine x_iload_n (pc := 8) hC dX11_isRange_8 rfl ?_
      refine x_iload_n (pc := 9) hC dX11_isRange_9 rfl ?_
      refine x_icmp_gt (pc := 10) hC 24 dX11_isRange_10 (by decide) (by omega) (by omega) (fun b10 => ?_) (fun b10 => ?_)
      · refine x_iconst (pc := 24) hC dX11_isRange_24 ?_
        refine x_zret (pc := 25) hC rfl dX11_isRange_25 (Or.inl rfl) ?_
        refine ⟨?_, rfl, rfl, rfl, rfl, rfl⟩
        first
        | (rw [bI_t (show (0 ≤ i ∧ 0 ≤ n ∧ i ≤ l ∧ n ≤ l - i) by omega)]; done)
        | (rw [bI_f (show ¬ (0 ≤ i ∧ 0 ≤ n ∧ i ≤ l ∧ n ≤ l - i) by omega)]; done)
      · refine x_iload_n (pc := 13) hC dX11_isRange_13 rfl ?_
        refine x_iload_n (pc := 14) hC dX11_isRange_14 rfl ?_
        refine x_iload_n (pc := 15) hC dX11_isRange_15 rfl ?_
        refine x_isub (pc := 16) hC dX11_isRange_16 ?_
        refine x_icmp_gt (pc := 17) hC 24 dX11_isRange_17 (by decide) (by omega) (by omega) (fun b17 => ?_) (fun b17 => ?_)
        · refine x_iconst (pc := 24) hC dX11_isRange_24 ?_
          refine x_zret (pc := 25) hC rfl dX11_isRange_25 (Or.inl rfl) ?_
          refine ⟨?_, rfl, rfl, rfl, rfl, rfl⟩
          first
          | (rw [bI_t (show (0 ≤ i ∧ 0 ≤ n ∧ i ≤ l ∧ n ≤ l - i) by omega)]; done)
          | (rw [bI_f (show ¬ (0 ≤ i ∧ 0 ≤ n ∧ i ≤ l ∧ n ≤ l - i) by omega)]; done)
        · refine x_iconst (pc := 20) hC dX11_isRange_20 ?_
          refine x_goto (pc := 21) hC 25 dX11_isRange_21 (by decide) ?_
          refine x_zret (pc := 25) hC rfl dX11_isRange_25 (Or.inr rfl) ?_
          refine ⟨?_, rfl, rfl, rfl, rfl, rfl⟩
          first
          | (rw [bI_t (show (0 ≤ i ∧ 0 ≤ n ∧ i ≤ l ∧ n ≤ l - i) by omega)]; done)
          | (rw [bI_f (show ¬ (0 ≤ i ∧ 0 ≤ n ∧ i ≤ l ∧ n ≤ l - i) by omega)]; done)

set_option maxHeartbeats 4000000 in
set_option maxRecDepth 100000 in
theorem c_failBy {G : ax_G} {T : Nat → Nat} {N : Nat → Int} {I : Nat → Int → Int} {R : Nat → Int → Option Nat} {z : Nat} {a o : Nat} (hx : fxS G T N R z a o) {n : Int} : axE G YX11_failBy 0 [vR a, vI n] T N I R z (some (vI (-10 - n))) (ax_u I a 11 n) := by

  refine ax_enter (by decide) (Nat.le_of_ble_eq_true rfl) (ax_cat rfl) (fun f hC => ?_)
  show axX G f 0 0 _ 0 [vR a, vI n] [] T N I R z 0 0
  refine x_aload_n (pc := 0) hC dX11_failBy_0 rfl ?_
  refine x_iload_n (pc := 1) hC dX11_failBy_1 rfl ?_
  refine x_putI (pc := 2) hC pf_X11_77 dX11_failBy_2 (fx_ta hx) (by decide) ?_
  refine x_bipush (pc := 5) hC dX11_failBy_5 (by decide) ?_
  refine x_iload_n (pc := 7) hC dX11_failBy_7 rfl ?_
  refine x_isub (pc := 8) hC dX11_failBy_8 ?_
  refine x_iret (pc := 9) hC rfl dX11_failBy_9 ?_
  exact ⟨rfl, rfl, rfl, rfl, rfl, rfl⟩

set_option maxHeartbeats 4000000 in
set_option maxRecDepth 100000 in
theorem c_isUnderWay {G : ax_G} {T : Nat → Nat} {N : Nat → Int} {I : Nat → Int → Int} {R : Nat → Int → Option Nat} {z : Nat} {a o : Nat} (hx : fxS G T N R z a o) (h8 : ax_r (I (a + 183) 8)) : axE G YX11_isUnderWay 0 [vR a] T N I R z (some (vI (bI (I (a + 183) 8 ≠ 0)))) I := by

  refine ax_enter (by decide) (Nat.le_of_ble_eq_true rfl) (ax_cat rfl) (fun f hC => ?_)
  show axX G f 0 0 _ 0 [vR a] [] T N I R z 0 0
  refine x_aload_n (pc := 0) hC dX11_isUnderWay_0 rfl ?_
  refine x_getO (pc := 1) hC gf_X11_64 dX11_isUnderWay_1 (fx_ta hx) (fx_cu hx).1 ?_
  refine x_getI (pc := 4) hC gf_X11_270 dX11_isUnderWay_4 (fx_cu hx).2.1.1 ?_
  refine x_if_eq (pc := 7) hC 14 dX11_isUnderWay_7 (by decide) (by omega) (fun b7 => ?_) (fun b7 => ?_)
  · refine x_iconst (pc := 14) hC dX11_isUnderWay_14 ?_
    refine x_zret (pc := 15) hC rfl dX11_isUnderWay_15 (Or.inl rfl) ?_
    refine ⟨?_, rfl, rfl, rfl, rfl, rfl⟩
    first
    | (rw [bI_t (show I (a + 183) 8 ≠ 0 by omega)]; done)
    | (rw [bI_f (show ¬ (I (a + 183) 8 ≠ 0) by omega)]; done)
  · refine x_iconst (pc := 10) hC dX11_isUnderWay_10 ?_
    refine x_goto (pc := 11) hC 15 dX11_isUnderWay_11 (by decide) ?_
    refine x_zret (pc := 15) hC rfl dX11_isUnderWay_15 (Or.inr rfl) ?_
    refine ⟨?_, rfl, rfl, rfl, rfl, rfl⟩
    first
    | (rw [bI_t (show I (a + 183) 8 ≠ 0 by omega)]; done)
    | (rw [bI_f (show ¬ (I (a + 183) 8 ≠ 0) by omega)]; done)

set_option maxHeartbeats 4000000 in
set_option maxRecDepth 100000 in
theorem c_lacksRoom {G : ax_G} {T : Nat → Nat} {N : Nat → Int} {I : Nat → Int → Int} {R : Nat → Int → Option Nat} {z : Nat} {a o : Nat} (hx : fxS G T N R z a o) {A w : Int → Nat} {m : Int} {p : Int → Int} (h : cmS T N I R A w m p) {c d : Int} (hc : 0 ≤ c ∧ c < m) (hd : 0 ≤ d ∧ d < m) (hn : 0 ≤ I a 2 ∧ I a 2 ≤ 24) (hl : (path p c).length ≤ 24) : axE G YX11_lacksRoomFor 2 [vR a, vR (A c), vR (A d)] T N I R z (some (vI (bI (I a 2 + (((path p c).filter (fun y => decide (y ∉ path p d))).length : Int) > 24)))) I := by

  refine ax_enter (by decide) (Nat.le_of_ble_eq_true rfl) (ax_cat rfl) (fun f hC => ?_)
  show axX G f 0 0 _ 0 [vR a, vR (A c), vR (A d)] [] T N I R z 0 0
  have k1 := (h.2 c hc.1 hc.2).1
  have hfl : ((path p c).filter (fun y => decide (y ∉ path p d))).length ≤ (path p c).length := List.length_filter_le _ _
  refine x_aload_n (pc := 0) hC dX11_lacksRoomFor_0 rfl ?_
  refine x_getI (pc := 1) hC gf_X11_105 dX11_lacksRoomFor_1 (fx_ta hx) ?_
  refine x_aload_n (pc := 4) hC dX11_lacksRoomFor_4 rfl ?_
  refine x_aload_n (pc := 5) hC dX11_lacksRoomFor_5 rfl ?_
  refine x_mU (pc := 6) hC (cq_X11_183 k1) dX11_lacksRoomFor_6 (c_countNot h hc hd) rfl rfl (by decide) rfl rfl (Nat.le_of_ble_eq_true rfl) ?_
  dsimp only [Option.toList, List.cons_append, List.nil_append]
  refine x_iadd (pc := 9) hC dX11_lacksRoomFor_9 ?_
  refine x_bipush (pc := 10) hC dX11_lacksRoomFor_10 (by decide) ?_
  refine x_icmp_le (pc := 12) hC 19 dX11_lacksRoomFor_12 (by decide) (by omega) (by omega) (fun b12 => ?_) (fun b12 => ?_)
  · refine x_iconst (pc := 19) hC dX11_lacksRoomFor_19 ?_
    refine x_zret (pc := 20) hC rfl dX11_lacksRoomFor_20 (Or.inl rfl) ?_
    refine ⟨?_, rfl, rfl, rfl, rfl, rfl⟩
    first
    | (rw [bI_t (show I a 2 + (((path p c).filter (fun y => decide (y ∉ path p d))).length : Int) > 24 by omega)]; done)
    | (rw [bI_f (show ¬ (I a 2 + (((path p c).filter (fun y => decide (y ∉ path p d))).length : Int) > 24) by omega)]; done)
  · refine x_iconst (pc := 15) hC dX11_lacksRoomFor_15 ?_
    refine x_goto (pc := 16) hC 20 dX11_lacksRoomFor_16 (by decide) ?_
    refine x_zret (pc := 20) hC rfl dX11_lacksRoomFor_20 (Or.inr rfl) ?_
    refine ⟨?_, rfl, rfl, rfl, rfl, rfl⟩
    first
    | (rw [bI_t (show I a 2 + (((path p c).filter (fun y => decide (y ∉ path p d))).length : Int) > 24 by omega)]; done)
    | (rw [bI_f (show ¬ (I a 2 + (((path p c).filter (fun y => decide (y ∉ path p d))).length : Int) > 24) by omega)]; done)

