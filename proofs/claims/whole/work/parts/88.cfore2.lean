/-! THE CLASS: foretell -/
theorem th_mem {σ : Nat → Int → Int} {o : Nat} (hm : miC σ o) {b c y : Int} (hc : 0 ≤ c ∧ c < σ o 2) : y ∈ ((path (σ (o + 2)) c).filter (fun y => decide (y ∉ path (σ (o + 2)) (σ (o + 7) b)))) ↔ y ∈ thL σ o b c := by
  unfold thL
  rw [List.mem_filter, List.mem_filter]
  constructor
  · rintro ⟨h1, h2⟩
    have h3 := path_in hm.2.2.1 _ _ y (Nat.le_refl _) hc.2 h1
    refine ⟨seg_mem.mpr ⟨y, h3.1, by have := hc.2; omega, rfl⟩, ?_⟩
    simp only [Bool.and_eq_true]
    exact ⟨by simpa using h1, h2⟩
  · rintro ⟨h1, h2⟩
    simp only [Bool.and_eq_true] at h2
    exact ⟨by simpa using h2.1, h2.2⟩
theorem Rh_at {T : Nat → Nat} {N : Nat → Int} {I : Nat → Int → Int} {R : Nat → Int → Option Nat} {a : Nat} {A : Int → Nat} {c : Int} {LL TH : List Int} {tt r : Nat} {L : List Int} {ma lv at_ : Int} (h : Rh T N I R a A c LL TH tt r L ma lv at_) : Rh T N (ax_u I (a + 189) 5 (at_ - 1)) R a A c LL TH tt r L ma lv (at_ - 1) := by
  obtain ⟨h1, h2, h3, h4, h5, ⟨h6, h7, h8, h9, h10, h11⟩, h12⟩ := h
  refine ⟨⟨axu_s, by rw [axu_j (by decide)]; exact h1.2⟩, h2, h3, h4, ⟨by rw [axu_a (by omega)]; exact h5.1, by rw [axu_a (by omega)]; exact h5.2⟩, ⟨h6, h7, rwS_fr h8 (axu_row (by omega)), by rw [axu_row (by omega)]; exact h9, h10, h11⟩, h12⟩
theorem Rh_lv {T : Nat → Nat} {N : Nat → Int} {I : Nat → Int → Int} {R : Nat → Int → Option Nat} {a : Nat} {A : Int → Nat} {c : Int} {LL TH : List Int} {tt r : Nat} {L : List Int} {ma lv at_ : Int} (h : Rh T N I R a A c LL TH tt r L ma lv at_) : Rh T N (ax_u I (a + 194) 1 (lv + 1)) R a A c LL TH tt r L ma (lv + 1) at_ := by
  obtain ⟨h1, h2, h3, h4, h5, ⟨h6, h7, h8, h9, h10, h11⟩, h12⟩ := h
  refine ⟨⟨by rw [axu_a (by omega)]; exact h1.1, by rw [axu_a (by omega)]; exact h1.2⟩, h2, h3, h4, ⟨by rw [axu_j (by decide)]; exact h5.1, axu_s⟩, ⟨h6, h7, rwS_fr h8 (axu_row (by omega)), by rw [axu_row (by omega)]; exact h9, h10, h11⟩, h12⟩
theorem Rh_tt {T : Nat → Nat} {N : Nat → Int} {I : Nat → Int → Int} {R : Nat → Int → Option Nat} {a o : Nat} {A : Int → Nat} {c : Int} {LL TH : List Int} {tt r : Nat} {L : List Int} {ma lv at_ : Int} (h : Rh T N I R a A c LL TH tt r L ma lv at_) (hc : A c = a + 182 ∨ o + 37 ≤ A c) (ho : a + 197 ≤ o) : tt = a + 190 ∨ tt = a + 182 ∨ a + 197 ≤ tt := by
  obtain ⟨-, -, -, -, -, -, -, h12⟩ := h
  rcases h12 with ⟨-, e⟩ | ⟨-, e⟩ <;> rw [e] <;> omega

set_option maxHeartbeats 4000000 in
set_option maxRecDepth 100000 in
theorem c_carryR_loop {G : ax_G} {f : ax_F} (hC : axC G f YX11_carry YX11_carry.1.cls 7 24 384) {a o : Nat} {σ : Nat → Int → Int} {A w : Int → Nat} (hI : miC σ o) (hR : miR σ o) (hz0 : σ (o + 6) 0 = 0) {b c : Int} (hb : 0 ≤ b ∧ b < 4) (hc0 : 0 ≤ c ∧ c < σ o 2) {LL TH : List Int} (hLL : LL = ((path (σ (o + 2)) (σ (o + 7) b)).filter (fun y => decide (y ∉ path (σ (o + 2)) c)))) (hTH : TH = ((path (σ (o + 2)) c).filter (fun y => decide (y ∉ path (σ (o + 2)) (σ (o + 7) b))))) {TT : Nat → Nat} {NN : Nat → Int} {II : Nat → Int → Int} {RR : Nat → Int → Option Nat} {zz : Nat} {F : Fr} : ∀ (t : List Int) (T : Nat → Nat) (N : Nat → Int) (I : Nat → Int → Int) (R : Nat → Int → Option Nat) (z tt r : Nat) (L : List Int) (ma lv : Int) (c2 c3 : ax_V) (k9 n9 : Nat), (∃ pre, tdL σ o b c = pre ++ t) → RelA G T N I R z a o σ A w → Rh T N I R a A c LL TH tt r L ma lv ((t.length : Int) - 1) → F = fore σ o b c t L ma lv → fro a o TT NN II RR T N I R → zz ≤ z → t.length ≤ k9 → 16 * t.length ≤ n9 → axX G f 24 384 (fun r1 T1 N1 I1 R1 z1 => ∃ s tt r L ma lv at_, r1 = some (vI s) ∧ fro a o TT NN II RR T1 N1 I1 R1 ∧ zz ≤ z1 ∧ RelA G T1 N1 I1 R1 z1 a o σ A w ∧ Rh T1 N1 I1 R1 a A c LL TH tt r L ma lv at_ ∧ (0 ≤ s ∧ s ≤ 2) ∧ ((s = 0 ∧ F = (L, ma, lv, -9, 0, 0)) ∨ (s ≠ 0 ∧ ∃ x op : Int, F = (L, ma, lv, x, op, s) ∧ (0 < x ∧ x < σ o 2) ∧ (0 ≤ at_ ∧ at_ < 24) ∧ R1 (a + 192) at_ = some (A x) ∧ I1 (a + 5) 5 = op))) 0 [vR a, vR (a + 189), c2, c3] [] T N I R z k9 n9 := by

  intro t
  have htd := td_rev hI (c := c) hb
  have ht := hI.2.2.2.2.1 b hb.1 hb.2
  have hl24 := path_len hI ht
  have hlL : LL.length ≤ 24 := by rw [hLL]; exact Nat.le_trans (List.length_filter_le _ _) hl24
  rw [← hLL] at htd
  induction t with
  | nil =>
    intro T N I R z tt r L ma lv c2 c3 k9 n9 hpre h hh hF hfr hz hk9 hn9
    have hx1 := rl_fx h
    have rpq : I (a + 189) 5 = -1 := hh.1.1
    refine x_aload_n (pc := 0) hC dX11_carry_0 rfl ?_
    refine x_getI (pc := 1) hC gf_X11_260 dX11_carry_1 (fx_re hx1).2.1.1 ?_
    rw [rpq]
    refine x_if_lt (pc := 4) hC 60 dX11_carry_4 (by decide) (by omega) (fun b4 => ?_) (fun b4 => ?_)
    · refine x_iconst (pc := 60) hC dX11_carry_60 ?_
      refine x_iret (pc := 61) hC rfl dX11_carry_61 ?_
      exact ⟨0, tt, r, L, ma, lv, _, rfl, hfr, hz, h, hh, by omega, Or.inl ⟨rfl, by rw [hF]; rfl⟩⟩
    · exfalso; omega
  | cons x t ih =>
    intro T N I R z tt r L ma lv c2 c3 k9 n9 hpre h hh hF hfr hz hk9 hn9
    have hx1 := rl_fx h
    have b1 := fx_b1 hx1
    have rpq := hh.1.1
    have hlen : (((x :: t).length : Nat) : Int) = (t.length : Int) + 1 := by simp
    rw [hlen] at rpq
    obtain ⟨pre, hpre⟩ := hpre
    have hllen : LL.length = pre.length + (t.length + 1) := by
      have := congrArg List.length hpre
      rw [htd, List.length_reverse, List.length_append] at this
      simpa using this
    have hLLx : LL[t.length]? = some x := by
      have h1 : (tdL σ o b c)[pre.length]? = some x := by rw [hpre, List.getElem?_append_right (Nat.le_refl _), Nat.sub_self]; rfl
      rw [htd, List.getElem?_reverse (by omega)] at h1
      rw [← h1]
      congr 1
      omega
    have hxm : x ∈ LL := List.mem_of_getElem? hLLx
    have hxp : x ∈ path (σ (o + 2)) (σ (o + 7) b) ∧ x ∉ path (σ (o + 2)) c := by
      rw [hLL] at hxm
      have := List.mem_filter.mp hxm
      exact ⟨this.1, by simpa using this.2⟩
    have hxi := path_in hI.2.2.1 _ _ x (Nat.le_refl _) ht.2 hxp.1
    have hx00 : x ≠ 0 := fun e => hxp.2 (by rw [e]; exact zero_in hI.2.2.1 _ c (Nat.le_refl _) hc0.1 hc0.2)
    have hx0 : 0 < x ∧ x < σ o 2 := by omega
    have kx := (rl_wo h (Int.le_of_lt hx0.1) hx0.2).2.2.2.1
    have hat : R (a + 192) (t.length : Int) = some (A x) := hh.2.2.1 _ _ hLLx
    have hwk : axE G YX6_commitAtWork 0 [vR (a + 189)] T N I R z (some (vR (A x))) I := by
      have := c_commitAtWork (G := G) (T := T) (N := N) (I := I) (R := R) (z := z) (fx_re hx1).2.1 (by rw [rpq]; constructor <;> omega)
      rw [rpq, if_pos (by omega), show (t.length : Int) + 1 - 1 = t.length by omega, hat] at this
      exact this
    have : Decidable (σ (o + 1) x = 0 ∧ ∃ y ∈ TH, chgC σ o x = chgC σ o y) := Classical.propDecidable _
    have hth : (σ (o + 1) x = 0 ∧ ∃ y ∈ TH, chgC σ o x = chgC σ o y) ↔ thP σ o x b c := by
      unfold thP
      constructor
      · rintro ⟨y1, y, y2, y3⟩; rw [hTH] at y2; exact ⟨y1, y, (th_mem hI hc0).mp y2, y3⟩
      · rintro ⟨y1, y, y2, y3⟩; exact ⟨y1, y, by rw [hTH]; exact (th_mem hI hc0).mpr y2, y3⟩
    have hit := c_isThere (G := G) (z := z) (TH := TH) (x := x) h hI hz0 (fx_re hx1).2.1 (Or.inr ⟨rfl, rfl⟩) ⟨Int.le_of_lt hx0.1, hx0.2⟩ hh.1.2 (by
      rw [hTH]
      exact Nat.le_trans (List.length_filter_le _ _) (path_len hI hc0)) hh.2.2.2.1 (fun v hv => by
      rw [hTH] at hv
      have h1 := (List.mem_filter.mp hv).1
      have h2 := path_in hI.2.2.1 _ _ v (Nat.le_refl _) hc0.2 h1
      have := hc0.2
      omega)
    have acc := (rl_cc h c hc0.1 hc0.2).2.2.2.2.2.2.1
    have hpre2 : ∃ pre, tdL σ o b c = pre ++ t := ⟨pre ++ [x], by rw [hpre]; simp⟩
    refine x_aload_n (pc := 0) hC dX11_carry_0 rfl ?_
    refine x_getI (pc := 1) hC gf_X11_260 dX11_carry_1 (fx_re hx1).2.1.1 ?_
    rw [rpq]
    refine x_if_lt (pc := 4) hC 60 dX11_carry_4 (by decide) (by omega) (fun b4 => ?_) (fun b4 => ?_)
    · exfalso; omega
    · refine x_aload_n (pc := 7) hC dX11_carry_7 rfl ?_
      refine x_mV (pc := 8) hC cv_X11_273 dX11_carry_8 hwk (fx_re hx1).2.1.1 rfl (by decide) rfl rfl (Nat.le_of_ble_eq_true rfl) ?_
      dsimp only [Option.toList, List.cons_append, List.nil_append]
      refine x_astore_n (pc := 11) hC dX11_carry_11 (Nat.le_of_ble_eq_true rfl) ?_
      dsimp only [List.set]
      refine x_aload_n (pc := 12) hC dX11_carry_12 rfl ?_
      refine x_aload_n (pc := 13) hC dX11_carry_13 rfl ?_
      refine x_aload_n (pc := 14) hC dX11_carry_14 rfl ?_
      refine x_rV (pc := 15) hC cv_X11_373 dX11_carry_15 hit (fx_ta hx1) rfl (by decide) rfl rfl (Nat.le_of_ble_eq_true rfl) ?_
      rintro v9 J S ⟨rfl, s1, mf⟩
      dsimp only [Option.toList, List.cons_append, List.nil_append]
      have h2 := rl_sc h s1
      have hx2 := rl_fx h2
      have hh2 : Rh T N J S a A c LL TH tt r L ma lv (((x :: t).length : Int) - 1) := Rh_fr hh (Rh_tt hh acc b1) (fun _ _ => ⟨rfl, rfl⟩) (fun q hq => mf q (by omega))
      have hfg2 : J (a + 192 + 2) 1 = lv := hh2.2.2.2.2.1.2
      have hfr2 := hfr.tr (fro_sc s1 b1)
      refine x_ifB_eq (pc := 18) hC 34 dX11_carry_18 (by decide) (fun b18 => ?_) (fun b18 => ?_)
      · refine x_aload_n (pc := 34) hC dX11_carry_34 rfl ?_
        refine x_aload_n (pc := 35) hC dX11_carry_35 rfl ?_
        refine x_aload_n (pc := 36) hC dX11_carry_36 rfl ?_
        refine x_callV (pc := 37) hC cv_X11_377 dX11_carry_37 (c_placeR h2 hI hR hx0 hc0 hh2) (fx_ta hx1) rfl (by decide) (by omega) (by omega) rfl rfl (Nat.le_of_ble_eq_true rfl) (fun _ _ _ _ _ _ hq => ?_)
        obtain ⟨rfl, f3, z3, h3, tt3, r3, L3, ma3, lv3, hh3, hcs⟩ := hq
        dsimp only [Option.toList, List.cons_append, List.nil_append]
        have hx3 := rl_fx h3
        have hsr := stp_r (mrgL (rsL σ o) (rowL σ o (σ (o + 2) x)) L (rowL σ o x))
        have hfr3 := hfr2.tr f3
        refine x_istore_n (pc := 40) hC dX11_carry_40 (Nat.le_of_ble_eq_true rfl) ?_
        dsimp only [List.set]
        refine x_iload_n (pc := 41) hC dX11_carry_41 rfl ?_
        refine x_if_eq (pc := 42) hC 47 dX11_carry_42 (by decide) (by omega) (fun b42 => ?_) (fun b42 => ?_)
        · have hnt : ¬ thP σ o x b c := fun h9 => b18 (hth.mpr h9)
          have hst : stp (mrgL (rsL σ o) (rowL σ o (σ (o + 2) x)) L (rowL σ o x)) = 0 := by first | exact b42 | exact Decidable.of_not_not b42
          rw [if_neg (fun h9 => h9 hst)] at hcs
          have hF2 : F = fore σ o b c t L3 ma3 lv3 := by
            rw [hF]
            simp only [fore]
            rw [if_neg hnt, if_neg (fun h9 => h9 hst)]
            by_cases hle : σ (o + 1) x = 0 ∧ L = (mrgL (rsL σ o) (rowL σ o (σ (o + 2) x)) L (rowL σ o x)).1
            · rw [if_pos hle]
              rw [if_pos hle] at hcs
              rw [hcs.1, hcs.2.1, hcs.2.2]
            · rw [if_neg hle]
              rw [if_neg hle] at hcs
              rw [hcs.1, hcs.2.1, hcs.2.2]
          refine x_aload_n (pc := 47) hC dX11_carry_47 rfl ?_
          refine x_dup (pc := 48) hC dX11_carry_48 rfl ?_
          refine x_getI (pc := 49) hC gf_X11_260 dX11_carry_49 (fx_re hx3).2.1.1 ?_
          refine x_iconst (pc := 52) hC dX11_carry_52 ?_
          refine x_isub (pc := 53) hC dX11_carry_53 ?_
          refine x_putI (pc := 54) hC pf_X11_260 dX11_carry_54 (fx_re hx3).2.1.1 (by decide) ?_
          refine x_goto (pc := 57) hC 0 dX11_carry_57 (by decide) ?_
          rw [hh3.1.1]
          have hh4 := Rh_at hh3
          rw [hlen] at hh4 ⊢
          rw [show (t.length : Int) + 1 - 1 - 1 = (t.length : Int) - 1 by omega] at hh4 ⊢
          refine ih _ _ _ _ _ _ _ _ _ _ _ _ _ _ hpre2 (rl_sc h3 (sc_rh (fun q hq => ⟨axu_row (by omega), rfl⟩) (fun _ _ _ => rfl))) hh4 hF2 (hfr3.tr (fun q hq => ⟨rfl, rfl, axu_row (by omega), rfl⟩)) (by omega) (by simp at hk9; omega) (by simp at hn9; omega)
        · refine x_iload_n (pc := 45) hC dX11_carry_45 rfl ?_
          refine x_iret (pc := 46) hC rfl dX11_carry_46 ?_
          have hnt : ¬ thP σ o x b c := fun h9 => b18 (hth.mpr h9)
          have hst : stp (mrgL (rsL σ o) (rowL σ o (σ (o + 2) x)) L (rowL σ o x)) ≠ 0 := by assumption
          rw [if_pos hst] at hcs
          refine ⟨stp (mrgL (rsL σ o) (rowL σ o (σ (o + 2) x)) L (rowL σ o x)), tt3, r3, L3, ma3, lv3, _, rfl, hfr3, by omega, h3, hh3, hsr, Or.inr ⟨hst, x, ((mrgL (rsL σ o) (rowL σ o (σ (o + 2) x)) L (rowL σ o x)).2.2.length : Int), ?_, hx0, by rw [hlen]; omega, ?_, hcs.2.2.2⟩⟩
          · rw [hF]
            simp only [fore]
            rw [if_neg hnt, if_pos hst, hcs.1, hcs.2.1, hcs.2.2.1]
          · rw [hlen, show (t.length : Int) + 1 - 1 = t.length by omega]
            exact hh3.2.2.1 _ _ hLLx
      · refine x_aload_n (pc := 21) hC dX11_carry_21 rfl ?_
        refine x_getO (pc := 22) hC gf_X11_210 dX11_carry_22 (fx_re hx1).2.1.1 (fx_re hx2).2.1.2.2.2.1.1 ?_
        refine x_iconst (pc := 25) hC dX11_carry_25 ?_
        refine x_dup2 (pc := 26) hC dX11_carry_26 rfl rfl ?_
        refine x_iald (pc := 27) hC dX11_carry_27 (fx_re hx2).2.1.2.2.2.1.2.1 (by omega) (by rw [(fx_re hx2).2.1.2.2.2.1.2.2]; omega) ?_
        refine x_iconst (pc := 28) hC dX11_carry_28 ?_
        rw [hfg2]
        refine x_iadd (pc := 29) hC dX11_carry_29 ?_
        refine x_iast (pc := 30) hC dX11_carry_30 (fx_re hx2).2.1.2.2.2.1.2.1 (by omega) (by rw [(fx_re hx2).2.1.2.2.2.1.2.2]; omega) ?_
        refine x_goto (pc := 31) hC 47 dX11_carry_31 (by decide) ?_
        have hthp := hth.mp b18
        have s3 : scK T N a J (ax_u J (a + 192 + 2) 1 (lv + 1)) S S := sc_rh (fun q hq => ⟨axu_row (by omega), rfl⟩) (fun _ _ _ => rfl)
        have h3 := rl_sc h2 s3
        have hx3 := rl_fx h3
        have hh3 : Rh T N (ax_u J (a + 192 + 2) 1 (lv + 1)) S a A c LL TH tt r L ma (lv + 1) (((x :: t).length : Int) - 1) := Rh_lv hh2
        have hfr3 := hfr2.tr (fro_sc s3 b1)
        have hF2 : F = fore σ o b c t L ma (lv + 1) := by rw [hF]; simp only [fore]; rw [if_pos hthp]
        refine x_aload_n (pc := 47) hC dX11_carry_47 rfl ?_
        refine x_dup (pc := 48) hC dX11_carry_48 rfl ?_
        refine x_getI (pc := 49) hC gf_X11_260 dX11_carry_49 (fx_re hx3).2.1.1 ?_
        refine x_iconst (pc := 52) hC dX11_carry_52 ?_
        refine x_isub (pc := 53) hC dX11_carry_53 ?_
        refine x_putI (pc := 54) hC pf_X11_260 dX11_carry_54 (fx_re hx3).2.1.1 (by decide) ?_
        refine x_goto (pc := 57) hC 0 dX11_carry_57 (by decide) ?_
        rw [hh3.1.1]
        have hh4 := Rh_at hh3
        rw [hlen] at hh4 ⊢
        rw [show (t.length : Int) + 1 - 1 - 1 = (t.length : Int) - 1 by omega] at hh4 ⊢
        refine ih _ _ _ _ _ _ _ _ _ _ _ _ _ _ hpre2 (rl_sc h3 (sc_rh (fun q hq => ⟨axu_row (by omega), rfl⟩) (fun _ _ _ => rfl))) hh4 hF2 (hfr3.tr (fun q hq => ⟨rfl, rfl, axu_row (by omega), rfl⟩)) (by omega) (by simp at hk9; omega) (by simp at hn9; omega)

