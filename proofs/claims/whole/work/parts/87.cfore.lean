/-! THE CLASS: a replay is foretold -/
def Rh (T : Nat → Nat) (N : Nat → Int) (I : Nat → Int → Int) (R : Nat → Int → Option Nat) (a : Nat) (A : Int → Nat) (c : Int) (LL TH : List Int) (tt r : Nat) (L : List Int) (ma lv at_ : Int) : Prop := (I (a + 189) 5 = at_ ∧ I (a + 189) 7 = TH.length) ∧ (R (a + 189) 2 = some (A c) ∧ R (a + 189) 3 = some tt) ∧ (∀ (k : Nat) (v : Int), LL[k]? = some v → R (a + 192) k = some (A v)) ∧ (∀ (k : Nat) (v : Int), TH[k]? = some v → R (a + 193) k = some (A v)) ∧ (I (a + 194) 0 = ma ∧ I (a + 194) 1 = lv) ∧ (pT (T tt) ∧ R tt 4 = some r ∧ rwS T N I r ∧ seg (I r) 0 (N r) = L ∧ N r = L.length ∧ (r < a ∨ a + 197 ≤ r)) ∧ (0 ≤ ma ∧ ((ma = 0 ∧ tt = A c) ∨ (0 < ma ∧ tt = a + 190)))
theorem Rh_fr {T T1 : Nat → Nat} {N N1 : Nat → Int} {I I1 : Nat → Int → Int} {R R1 : Nat → Int → Option Nat} {a : Nat} {A : Int → Nat} {c : Int} {LL TH : List Int} {tt r : Nat} {L : List Int} {ma lv at_ : Int} (h : Rh T N I R a A c LL TH tt r L ma lv at_) (hA : tt = a + 190 ∨ tt = a + 182 ∨ a + 197 ≤ tt) (hT : ∀ q, T q ≠ 99 → T1 q = T q ∧ N1 q = N q) (hf : ∀ q, (T q ≠ 99 ∧ (q < a ∨ a + 197 ≤ q ∨ q = a + 182)) ∨ (a + 189 ≤ q ∧ q < a + 197) → I1 q = I q ∧ R1 q = R q) : Rh T1 N1 I1 R1 a A c LL TH tt r L ma lv at_ := by
  obtain ⟨h1, h2, h3, h4, h5, ⟨h6, h7, h8, h9, h10, h11⟩, h12⟩ := h
  have tt99 : T tt ≠ 99 := by rcases h6 with e | e | e <;> omega
  have r99 : T r ≠ 99 := by have := h8.1; omega
  have ft := hf tt (by omega)
  have fr := hf r (by omega)
  have f9 := hf (a + 189) (by omega)
  have f2 := hf (a + 192) (by omega)
  have f3 := hf (a + 193) (by omega)
  have f4 := hf (a + 194) (by omega)
  unfold Rh
  rw [f9.1, f9.2, f2.2, f3.2, f4.1, ft.2, fr.1, (hT tt tt99).1, (hT r r99).2]
  refine ⟨h1, h2, h3, h4, h5, ⟨h6, h7, ?_, h9, h10, h11⟩, h12⟩
  unfold rwS at *
  rw [(hT r r99).1, (hT r r99).2, fr.1]
  exact h8
/-- changes of the rehearsal alone -/
theorem sc_rh {T : Nat → Nat} {N : Nat → Int} {I J : Nat → Int → Int} {R S : Nat → Int → Option Nat} {a : Nat} (hi : ∀ q, q < a + 189 ∨ a + 197 ≤ q → J q = I q ∧ S q = R q) (h9 : ∀ k, k ≠ 2 → k ≠ 3 → S (a + 189) k = R (a + 189) k) : scK T N a I J R S :=
  ⟨fun q hq => hi q (by omega), ⟨by rw [(hi (a + 5) (by omega)).1], (hi _ (by omega)).2⟩, fun k => mgT_le (z := a + 98) k (fun _ _ => rfl) (fun _ _ => rfl) (fun q hq => (hi q (by omega)).2) (by omega), fun k => mtT_fr k (fun q a1 a2 => (hi q (by omega)).2), fun k => mtT_fr k (fun q a1 a2 => (hi q (by omega)).2), fun k => rpT_fr k h9, h9 0 (by decide) (by decide)⟩

set_option maxHeartbeats 4000000 in
set_option maxRecDepth 100000 in
theorem c_placeR {G : ax_G} {T : Nat → Nat} {N : Nat → Int} {I : Nat → Int → Int} {R : Nat → Int → Option Nat} {z a o : Nat} {σ : Nat → Int → Int} {A w : Int → Nat} (h : RelA G T N I R z a o σ A w) (hI : miC σ o) (hR : miR σ o) {x c ma lv at_ : Int} {LL TH L : List Int} {tt r : Nat} (hx0 : 0 < x ∧ x < σ o 2) (hc0 : 0 ≤ c ∧ c < σ o 2) (hh : Rh T N I R a A c LL TH tt r L ma lv at_) : axM G YX11_place 6 [vR a, vR (a + 189), vR (A x)] T N I R z 1 16 (fun r1 T1 N1 I1 R1 z1 => r1 = some (vI (stp (mrgL (rsL σ o) (rowL σ o (σ (o + 2) x)) L (rowL σ o x)))) ∧ fro a o T N I R T1 N1 I1 R1 ∧ z ≤ z1 ∧ RelA G T1 N1 I1 R1 z1 a o σ A w ∧ ∃ tt1 r2 L1 ma1 lv1, Rh T1 N1 I1 R1 a A c LL TH tt1 r2 L1 ma1 lv1 at_ ∧ (if stp (mrgL (rsL σ o) (rowL σ o (σ (o + 2) x)) L (rowL σ o x)) ≠ 0 then (L1 = L ∧ ma1 = ma ∧ lv1 = lv ∧ I1 (a + 5) 5 = (mrgL (rsL σ o) (rowL σ o (σ (o + 2) x)) L (rowL σ o x)).2.2.length) else if σ (o + 1) x = 0 ∧ L = (mrgL (rsL σ o) (rowL σ o (σ (o + 2) x)) L (rowL σ o x)).1 then (L1 = L ∧ ma1 = ma ∧ lv1 = lv + 1) else (L1 = (mrgL (rsL σ o) (rowL σ o (σ (o + 2) x)) L (rowL σ o x)).1 ∧ ma1 = ma + (if σ (o + 1) x = 2 ∧ 0 < ma then 0 else 1) ∧ lv1 = lv))) := by
  refine ax_enter (by decide) (Nat.le_of_ble_eq_true rfl) (ax_cat rfl) (fun f hC => ?_)
  show axX G f 1 16 _ 0 [vR a, vR (a + 189), vR (A x)] [] T N I R z 1 16
  have hx := rl_fx h
  have b0 := fx_b0 hx
  have b1 := fx_b1 hx
  have b2 := fx_b2 hx
  have tz0 := fx_tz hx
  have hpp := hI.2.2.1.2 _ hx0.1 hx0.2
  have wx := rl_wo h (Int.le_of_lt hx0.1) hx0.2
  have wp := rl_wo h hpp.1 (by omega : σ (o + 2) x < σ o 2)
  have wc := rl_wo h hc0.1 hc0.2
  have ac := (rl_cc h c hc0.1 hc0.2).2.2.2.2.2.2.1
  have ko := wc.2.2.2.1
  have kx := wx.2.2.2.1
  have hkd : kdT (T (A x)) = σ (o + 1) x := (rl_cc h _ (Int.le_of_lt hx0.1) hx0.2).2.1
  have hkb := hI.2.2.2.2.2 x
  have hkr : ax_r (σ (o + 1) x) := by constructor <;> omega
  have hpr := c_parentRow (G := G) (z := z) (rl_cs h) (c := x) ⟨Int.le_of_lt hx0.1, hx0.2⟩
  rw [show pwA w (σ (o + 2)) x = w (σ (o + 2) x) from if_neg (by omega)] at hpr
  obtain ⟨⟨e5, e7⟩, ⟨konto, ktop⟩, e3, e4, ⟨f0, f1⟩, ⟨kt, h7, h8, h9, h10, h11⟩, ⟨ma0, hma⟩⟩ := hh
  have htt : tt = a + 190 ∨ tt = a + 182 ∨ a + 197 ≤ tt := by rcases hma with ⟨-, e⟩ | ⟨-, e⟩ <;> rw [e] <;> omega
  have hLl : L.length ≤ 16 := by have := h8.2.1; omega
  have hLn : isLn L := fun v hv => by rw [← h9] at hv; obtain ⟨j, j0, j1, rfl⟩ := seg_mem.mp hv; exact h8.2.2 j j0 j1
  have hmg := cl_mg (wd := -9) h hR (by decide) wp.1 h8 wx.1 (rl_row h hpp.1 (by omega)).1 h9 (rl_row h (Int.le_of_lt hx0.1) hx0.2).1 wp.2.1 (by omega) wx.2.1
  obtain ⟨M, hM⟩ : ∃ M, M = (mrgL (rsL σ o) (rowL σ o (σ (o + 2) x)) L (rowL σ o x)) := ⟨_, rfl⟩
  rw [← hM] at hmg ⊢
  have hcf : 0 ≤ M.2.1 := by rw [hM]; exact (mrgL_c _ _ _ _).1
  refine x_aload_n (pc := 0) hC dX11_place_0 rfl ?_
  refine x_getO (pc := 1) hC gf_X11_36 dX11_place_1 (fx_ta hx) (fx_mg hx).1 ?_
  refine x_aload_n (pc := 4) hC dX11_place_4 rfl ?_
  refine x_mU (pc := 5) hC (cq_X11_387 kx) dX11_place_5 hpr rfl rfl (by decide) rfl rfl (Nat.le_of_ble_eq_true rfl) ?_
  dsimp only [Option.toList, List.cons_append, List.nil_append]
  refine x_aload_n (pc := 8) hC dX11_place_8 rfl ?_
  refine x_getO (pc := 9) hC gf_X11_279 dX11_place_9 (fx_re hx).2.1.1 ktop ?_
  refine x_getO (pc := 12) hC (gp_X11_133 kt) dX11_place_12 rfl h7 ?_
  refine x_aload_n (pc := 15) hC dX11_place_15 rfl ?_
  refine x_getO (pc := 16) hC (gp_X11_133 kx) dX11_place_16 rfl wx.2.2.1 ?_
  refine x_bipush (pc := 19) hC dX11_place_19 (by decide) ?_
  refine x_rV (pc := 21) hC cv_X11_187 dX11_place_21 hmg (fx_mg hx).2.1 rfl (by decide) rfl rfl (Nat.le_of_ble_eq_true rfl) ?_
  rintro v9 J S ⟨rfl, mV, ⟨m1, m2⟩, m3, m4⟩
  dsimp only [Option.toList, List.nil_append]
  have s1 : scK T N a I J R S := sc_mg mV
  have h1 := rl_sc h s1
  have hx1 := rl_fx h1
  obtain ⟨⟨o1, o2, -, -⟩, ⟨x1, x2, x3⟩, -⟩ := mV
  have x4 := x1.1
  have of : ∀ q, q < a + 5 ∨ a + 98 ≤ q → J q = I q ∧ S q = R q := fun q hq => ⟨o1 q (by omega), o2 q (by omega)⟩
  have hh1 : Rh T N J S a A c LL TH tt r L ma lv at_ := Rh_fr ⟨⟨e5, e7⟩, ⟨konto, ktop⟩, e3, e4, ⟨f0, f1⟩, ⟨kt, h7, h8, h9, h10, h11⟩, ⟨ma0, hma⟩⟩ htt (fun _ _ => ⟨rfl, rfl⟩) (fun q hq => of q (by omega))
  obtain ⟨⟨e51, e71⟩, ⟨konto1, ktop1⟩, e31, e41, ⟨f01, f11⟩, ⟨-, h71, h81, h91, h101, -⟩, -⟩ := hh1
  have hfr1 := fro_sc s1 b1
  refine x_aload_n (pc := 24) hC dX11_place_24 rfl ?_
  refine x_getO (pc := 25) hC gf_X11_36 dX11_place_25 (fx_ta hx) (fx_mg hx1).1 ?_
  refine x_getI (pc := 28) hC gf_X11_219 dX11_place_28 (fx_mg hx1).2.1 ?_
  rw [x3]
  refine x_if_le (pc := 31) hC 36 dX11_place_31 (by decide) (by omega) (fun b31 => ?_) (fun b31 => ?_)
  · refine x_aload_n (pc := 36) hC dX11_place_36 rfl ?_
    refine x_getO (pc := 37) hC gf_X11_36 dX11_place_37 (fx_ta hx) (fx_mg hx1).1 ?_
    refine x_getI (pc := 40) hC gf_X11_194 dX11_place_40 (fx_mg hx1).2.1 ?_
    refine x_bipush (pc := 43) hC dX11_place_43 (by decide) ?_
    rw [x4]
    refine x_icmp_le (pc := 45) hC 50 dX11_place_45 (by decide) (by omega) (by omega) (fun b45 => ?_) (fun b45 => ?_)
    · have hst : stp M = 0 := by unfold stp; rw [if_neg (by omega), if_neg (by omega)]
      rw [hst]
      have hre := fun (K9 : Nat → Int → Int) (hk1 : K9 (a + 5) 3 = J (a + 5) 3) (hk2 : K9 (a + 5 + 2) = J (a + 5 + 2)) (hk3 : K9 r = J r) => c_resultEquals (G := G) (T := T) (N := N) (I := K9) (z := z) (R := S) (r := r) (l := L) (L := M.1) (fx_mg hx1).2 ⟨by rw [hk1]; exact x1.1, by rw [hk2]; exact x1.2⟩ m1 m2 h8.1 h10 (by rw [hk3, ← h10]; exact h91) (by omega) hLn
      refine x_aload_n (pc := 50) hC dX11_place_50 rfl ?_
      refine x_getO (pc := 51) hC gf_X11_210 dX11_place_51 (fx_re hx).2.1.1 (fx_re hx1).2.1.2.2.2.1.1 ?_
      refine x_iconst (pc := 54) hC dX11_place_54 ?_
      refine x_dup2 (pc := 55) hC dX11_place_55 rfl rfl ?_
      refine x_iald (pc := 56) hC dX11_place_56 (fx_re hx1).2.1.2.2.2.1.2.1 (by omega) (by rw [(fx_re hx1).2.1.2.2.2.1.2.2]; omega) ?_
      refine x_aload_n (pc := 57) hC dX11_place_57 rfl ?_
      refine x_getO (pc := 58) hC gf_X11_36 dX11_place_58 (fx_ta hx) (fx_mg hx1).1 ?_
      refine x_getI (pc := 61) hC gf_X11_191 dX11_place_61 (fx_mg hx1).2.1 ?_
      refine x_iadd (pc := 64) hC dX11_place_64 ?_
      refine x_iast (pc := 65) hC dX11_place_65 (fx_re hx1).2.1.2.2.2.1.2.1 (by omega) (by rw [(fx_re hx1).2.1.2.2.2.1.2.2]; omega) ?_
      obtain ⟨J3, hJ3⟩ : ∃ J3, J3 = ax_u J (a + 192 + 2) 3 (J (a + 192 + 2) 3 + J (a + 5) 4) := ⟨_, rfl⟩
      rw [← hJ3]
      have j3o : ∀ q, q ≠ a + 194 → J3 q = J q := fun q hq => by rw [hJ3]; exact axu_row hq
      have j3f : ∀ k, k ≠ 3 → J3 (a + 194) k = J (a + 194) k := fun k hk => by rw [hJ3]; exact axu_j hk
      have s3 : scK T N a J J3 S S := sc_rh (fun q hq => ⟨j3o q (by omega), rfl⟩) (fun _ _ _ => rfl)
      have h3 := rl_sc h1 s3
      have hfr3 := hfr1.tr (fro_sc s3 b1)
      have x13 : rlS J3 (a + 5) M.1 := ⟨by rw [j3o _ (by omega)]; exact x1.1, by rw [j3o _ (by omega)]; exact x1.2⟩
      have hre3 := hre J3 (by rw [j3o _ (by omega)]) (by rw [j3o _ (by omega)]) (j3o r (by omega))
      have r3 : J3 r = J r := j3o r (by omega)
      refine x_aload_n (pc := 66) hC dX11_place_66 rfl ?_
      refine x_kind (pc := 67) hC kx dX11_place_67 (by decide) rfl (Nat.le_of_ble_eq_true rfl) ?_
      rw [hkd]
      refine x_if_ne (pc := 70) hC 103 dX11_place_70 (by decide) hkr (fun b70 => ?_) (fun b70 => ?_)
      · refine x_aload_n (pc := 103) hC dX11_place_103 rfl ?_
        refine x_kind (pc := 104) hC kx dX11_place_104 (by decide) rfl (Nat.le_of_ble_eq_true rfl) ?_
        rw [hkd]
        refine x_iconst (pc := 107) hC dX11_place_107 ?_
        refine x_icmp_ne (pc := 108) hC 149 dX11_place_108 (by decide) hkr (by omega) (fun b108 => ?_) (fun b108 => ?_)
        · have hno : ¬ (σ (o + 1) x = 0 ∧ L = M.1) := fun h9 => by
            first
            | exact b87 h9.2.symm
            | exact b70 h9.1
          have hno2 : ¬ (σ (o + 1) x = 2 ∧ 0 < ma) := fun h9 => by
            first
            | exact b108 h9.1
            | (rcases hma with ⟨e9, -⟩ | ⟨-, e9⟩
               · exact absurd h9.2 (by rw [e9]; decide)
               · have e8 : tt = A c := Option.some.inj b119
                 have := ac
                 rw [e9] at e8
                 omega)
          have kd : pT (T (a + 190)) := by rw [(fx_re hx1).2.2.2]; decide
          refine x_aload_n (pc := 149) hC dX11_place_149 rfl ?_
          refine x_getO (pc := 150) hC gf_X11_393 dX11_place_150 (fx_re hx).2.1.1 (fx_re hx1).2.2.1 ?_
          refine x_ifnonnull (pc := 153) hC 193 dX11_place_153 (by decide) (fun _ _ => ?_) (fun h => by cases h)
          refine x_aload_n (pc := 193) hC dX11_place_193 rfl ?_
          refine x_getO (pc := 194) hC gf_X11_393 dX11_place_194 (fx_re hx).2.1.1 (fx_re hx1).2.2.1 ?_
          refine x_aload_n (pc := 197) hC dX11_place_197 rfl ?_
          refine x_getO (pc := 198) hC gf_X11_36 dX11_place_198 (fx_ta hx) (fx_mg hx1).1 ?_
          refine x_callV (pc := 201) hC cv_X11_195 dX11_place_201 (c_copyResult (fx_mg hx1).2 x13 m1 (by omega) (by omega)) (fx_mg hx1).2.1 rfl (by decide) (by omega) (by omega) rfl rfl (Nat.le_of_ble_eq_true rfl) (fun _ _ _ _ _ _ hq => ?_)
          obtain ⟨rfl, rfl, rfl, rfl, rfl, row, rfl, hrow⟩ := hq
          dsimp only [Option.toList, List.cons_append, List.nil_append]
          have h4 : RelA G (ax_n T z 13) (ax_n N z (M.1.length : Int)) (ax_n J3 z row) (ax_n S z (fun _ => none)) (z + 1) a o σ A w := rl_nw h3
          have hx4 := rl_fx h4
          have hTa4 := fx_ta hx4
          have hT9 := (fx_re hx4).2.1.1
          have zx := tz0 (A x) (by rcases kx with e9 | e9 | e9 <;> omega)
          have zt := tz0 tt (by rcases kt with e9 | e9 | e9 <;> omega)
          have kx4 : pT (ax_n T z 13 (A x)) := by rw [axn_a (by omega)]; exact kx
          have kt4 : pT (ax_n T z 13 tt) := by rw [axn_a (by omega)]; exact kt
          have hT190 : pT (ax_n T z 13 (a + 190)) := by rw [(fx_re hx4).2.2.2]; decide
          refine x_putO (pc := 204) hC (pp_X11_133 hT190) dX11_place_204 (Or.inr ⟨_, rfl⟩) rfl (by decide) ?_
          refine x_aload_n (pc := 207) hC dX11_place_207 rfl ?_
          refine x_aload_n (pc := 208) hC dX11_place_208 rfl ?_
          refine x_getO (pc := 209) hC gf_X11_393 dX11_place_209 hT9 (Eq.trans (axu_a (by omega)) (fx_re hx4).2.2.1) ?_
          refine x_putO (pc := 212) hC pf_X11_279 dX11_place_212 (Or.inl ⟨_, rfl⟩) hT9 (by decide) ?_
          have hfig : ax_u (ax_u (ax_n S z (fun _ => none)) (a + 190) 4 (some z)) (a + 189) 3 (some (a + 190)) (a + 189) 9 = some (a + 192 + 2) := by rw [axu_j (by decide), axu_a (by omega)]; exact (fx_re hx4).2.1.2.2.2.1.1
          refine x_aload_n (pc := 215) hC dX11_place_215 rfl ?_
          refine x_getO (pc := 216) hC gf_X11_210 dX11_place_216 hT9 hfig ?_
          refine x_iconst (pc := 219) hC dX11_place_219 ?_
          refine x_dup2 (pc := 220) hC dX11_place_220 rfl rfl ?_
          refine x_iald (pc := 221) hC dX11_place_221 (fx_re hx4).2.1.2.2.2.1.2.1 (by omega) (by rw [(fx_re hx4).2.1.2.2.2.1.2.2]; omega) ?_
          refine x_iconst (pc := 222) hC dX11_place_222 ?_
          refine x_iadd (pc := 223) hC dX11_place_223 ?_
          refine x_iast (pc := 224) hC dX11_place_224 (fx_re hx4).2.1.2.2.2.1.2.1 (by omega) (by rw [(fx_re hx4).2.1.2.2.2.1.2.2]; omega) ?_
          refine x_iconst (pc := 225) hC dX11_place_225 ?_
          refine x_iret (pc := 226) hC rfl dX11_place_226 ?_
          have hzr : rwS (ax_n T z 13) (ax_n N z (M.1.length : Int)) (ax_n J3 z row) z := by
            unfold rwS
            rw [axn_s, axn_s, axn_s]
            refine ⟨rfl, by omega, fun j j0 j1 => m2 _ ?_⟩
            rw [← hrow]
            exact seg_mem.mpr ⟨j, j0, j1, rfl⟩
          have cAz : ∀ d, 0 ≤ d → d < σ o 2 → A d ≠ z := fun d d0 d1 => by
            have := (rl_wo h d0 d1).2.2.2.1
            have := tz0 (A d) (by rcases this with e9 | e9 | e9 <;> omega)
            omega
          have s5 : scK (ax_n T z 13) (ax_n N z (M.1.length : Int)) a (ax_n J3 z row) (ax_u (ax_n J3 z row) (a + 192 + 2) 0 (ax_n J3 z row (a + 192 + 2) 0 + 1)) (ax_n S z (fun _ => none)) (ax_u (ax_u (ax_n S z (fun _ => none)) (a + 190) 4 (some z)) (a + 189) 3 (some (a + 190))) := sc_rh (fun q hq => ⟨axu_row (by omega), by rw [axu_row (by omega), axu_row (by omega)]⟩) (fun k _ h3 => by rw [axu_j h3, axu_a (by omega)])
          refine ⟨rfl, hfr3.tr ((fro_nw b1 b2).tr (fro_sc s5 b1)), by omega, rl_sc h4 s5, a + 190, z, M.1, ma + 1, lv, ⟨⟨?_, ?_⟩, ⟨?_, axu_s⟩, fun k v hv => ?_, fun k v hv => ?_, ⟨?_, ?_⟩, ⟨hT190, by rw [axu_a (by omega), axu_s], rwS_fr hzr (axu_row (by omega)), by rw [axu_row (by omega), axn_s, axn_s]; exact hrow, axn_s, Or.inr (by omega)⟩, ⟨by omega, Or.inr ⟨by omega, rfl⟩⟩⟩, ?_⟩
          · rw [axu_a (by omega), axn_a (by omega), j3o _ (by omega)]; exact e51
          · rw [axu_a (by omega), axn_a (by omega), j3o _ (by omega)]; exact e71
          · rw [axu_j (by decide), axu_a (by omega), axn_a (by omega)]; exact konto1
          · rw [axu_a (by omega), axu_a (by omega), axn_a (by omega)]; exact e31 k v hv
          · rw [axu_a (by omega), axu_a (by omega), axn_a (by omega)]; exact e41 k v hv
          · have e9 : ax_u (ax_n J3 z row) (a + 192 + 2) 0 (ax_n J3 z row (a + 192 + 2) 0 + 1) (a + 194) 0 = ax_n J3 z row (a + 194) 0 + 1 := axu_s
            rw [e9, axn_a (by omega), j3f 0 (by decide), f01]
          · have e9 : ax_u (ax_n J3 z row) (a + 192 + 2) 0 (ax_n J3 z row (a + 192 + 2) 0 + 1) (a + 194) 1 = ax_n J3 z row (a + 194) 1 := axu_j (by decide)
            rw [e9, axn_a (by omega), j3f 1 (by decide)]; exact f11
          · rw [if_neg (fun h9 => h9 rfl), if_neg hno, if_neg hno2]
            exact ⟨rfl, rfl, rfl⟩
        · refine x_aload_n (pc := 111) hC dX11_place_111 rfl ?_
          refine x_getO (pc := 112) hC gf_X11_279 dX11_place_112 (fx_re hx).2.1.1 ktop1 ?_
          refine x_aload_n (pc := 115) hC dX11_place_115 rfl ?_
          refine x_getO (pc := 116) hC gf_X11_390 dX11_place_116 (fx_re hx).2.1.1 konto1 ?_
          refine x_acmp_eq (pc := 119) hC 149 dX11_place_119 (by decide) (fun b119 => ?_) (fun b119 => ?_)
          · have hno : ¬ (σ (o + 1) x = 0 ∧ L = M.1) := fun h9 => by
              first
              | exact b87 h9.2.symm
              | exact b70 h9.1
            have hno2 : ¬ (σ (o + 1) x = 2 ∧ 0 < ma) := fun h9 => by
              first
              | exact b108 h9.1
              | (rcases hma with ⟨e9, -⟩ | ⟨-, e9⟩
                 · exact absurd h9.2 (by rw [e9]; decide)
                 · have e8 : tt = A c := Option.some.inj b119
                   have := ac
                   rw [e9] at e8
                   omega)
            have kd : pT (T (a + 190)) := by rw [(fx_re hx1).2.2.2]; decide
            refine x_aload_n (pc := 149) hC dX11_place_149 rfl ?_
            refine x_getO (pc := 150) hC gf_X11_393 dX11_place_150 (fx_re hx).2.1.1 (fx_re hx1).2.2.1 ?_
            refine x_ifnonnull (pc := 153) hC 193 dX11_place_153 (by decide) (fun _ _ => ?_) (fun h => by cases h)
            refine x_aload_n (pc := 193) hC dX11_place_193 rfl ?_
            refine x_getO (pc := 194) hC gf_X11_393 dX11_place_194 (fx_re hx).2.1.1 (fx_re hx1).2.2.1 ?_
            refine x_aload_n (pc := 197) hC dX11_place_197 rfl ?_
            refine x_getO (pc := 198) hC gf_X11_36 dX11_place_198 (fx_ta hx) (fx_mg hx1).1 ?_
            refine x_callV (pc := 201) hC cv_X11_195 dX11_place_201 (c_copyResult (fx_mg hx1).2 x13 m1 (by omega) (by omega)) (fx_mg hx1).2.1 rfl (by decide) (by omega) (by omega) rfl rfl (Nat.le_of_ble_eq_true rfl) (fun _ _ _ _ _ _ hq => ?_)
            obtain ⟨rfl, rfl, rfl, rfl, rfl, row, rfl, hrow⟩ := hq
            dsimp only [Option.toList, List.cons_append, List.nil_append]
            have h4 : RelA G (ax_n T z 13) (ax_n N z (M.1.length : Int)) (ax_n J3 z row) (ax_n S z (fun _ => none)) (z + 1) a o σ A w := rl_nw h3
            have hx4 := rl_fx h4
            have hTa4 := fx_ta hx4
            have hT9 := (fx_re hx4).2.1.1
            have zx := tz0 (A x) (by rcases kx with e9 | e9 | e9 <;> omega)
            have zt := tz0 tt (by rcases kt with e9 | e9 | e9 <;> omega)
            have kx4 : pT (ax_n T z 13 (A x)) := by rw [axn_a (by omega)]; exact kx
            have kt4 : pT (ax_n T z 13 tt) := by rw [axn_a (by omega)]; exact kt
            have hT190 : pT (ax_n T z 13 (a + 190)) := by rw [(fx_re hx4).2.2.2]; decide
            refine x_putO (pc := 204) hC (pp_X11_133 hT190) dX11_place_204 (Or.inr ⟨_, rfl⟩) rfl (by decide) ?_
            refine x_aload_n (pc := 207) hC dX11_place_207 rfl ?_
            refine x_aload_n (pc := 208) hC dX11_place_208 rfl ?_
            refine x_getO (pc := 209) hC gf_X11_393 dX11_place_209 hT9 (Eq.trans (axu_a (by omega)) (fx_re hx4).2.2.1) ?_
            refine x_putO (pc := 212) hC pf_X11_279 dX11_place_212 (Or.inl ⟨_, rfl⟩) hT9 (by decide) ?_
            have hfig : ax_u (ax_u (ax_n S z (fun _ => none)) (a + 190) 4 (some z)) (a + 189) 3 (some (a + 190)) (a + 189) 9 = some (a + 192 + 2) := by rw [axu_j (by decide), axu_a (by omega)]; exact (fx_re hx4).2.1.2.2.2.1.1
            refine x_aload_n (pc := 215) hC dX11_place_215 rfl ?_
            refine x_getO (pc := 216) hC gf_X11_210 dX11_place_216 hT9 hfig ?_
            refine x_iconst (pc := 219) hC dX11_place_219 ?_
            refine x_dup2 (pc := 220) hC dX11_place_220 rfl rfl ?_
            refine x_iald (pc := 221) hC dX11_place_221 (fx_re hx4).2.1.2.2.2.1.2.1 (by omega) (by rw [(fx_re hx4).2.1.2.2.2.1.2.2]; omega) ?_
            refine x_iconst (pc := 222) hC dX11_place_222 ?_
            refine x_iadd (pc := 223) hC dX11_place_223 ?_
            refine x_iast (pc := 224) hC dX11_place_224 (fx_re hx4).2.1.2.2.2.1.2.1 (by omega) (by rw [(fx_re hx4).2.1.2.2.2.1.2.2]; omega) ?_
            refine x_iconst (pc := 225) hC dX11_place_225 ?_
            refine x_iret (pc := 226) hC rfl dX11_place_226 ?_
            have hzr : rwS (ax_n T z 13) (ax_n N z (M.1.length : Int)) (ax_n J3 z row) z := by
              unfold rwS
              rw [axn_s, axn_s, axn_s]
              refine ⟨rfl, by omega, fun j j0 j1 => m2 _ ?_⟩
              rw [← hrow]
              exact seg_mem.mpr ⟨j, j0, j1, rfl⟩
            have cAz : ∀ d, 0 ≤ d → d < σ o 2 → A d ≠ z := fun d d0 d1 => by
              have := (rl_wo h d0 d1).2.2.2.1
              have := tz0 (A d) (by rcases this with e9 | e9 | e9 <;> omega)
              omega
            have s5 : scK (ax_n T z 13) (ax_n N z (M.1.length : Int)) a (ax_n J3 z row) (ax_u (ax_n J3 z row) (a + 192 + 2) 0 (ax_n J3 z row (a + 192 + 2) 0 + 1)) (ax_n S z (fun _ => none)) (ax_u (ax_u (ax_n S z (fun _ => none)) (a + 190) 4 (some z)) (a + 189) 3 (some (a + 190))) := sc_rh (fun q hq => ⟨axu_row (by omega), by rw [axu_row (by omega), axu_row (by omega)]⟩) (fun k _ h3 => by rw [axu_j h3, axu_a (by omega)])
            refine ⟨rfl, hfr3.tr ((fro_nw b1 b2).tr (fro_sc s5 b1)), by omega, rl_sc h4 s5, a + 190, z, M.1, ma + 1, lv, ⟨⟨?_, ?_⟩, ⟨?_, axu_s⟩, fun k v hv => ?_, fun k v hv => ?_, ⟨?_, ?_⟩, ⟨hT190, by rw [axu_a (by omega), axu_s], rwS_fr hzr (axu_row (by omega)), by rw [axu_row (by omega), axn_s, axn_s]; exact hrow, axn_s, Or.inr (by omega)⟩, ⟨by omega, Or.inr ⟨by omega, rfl⟩⟩⟩, ?_⟩
            · rw [axu_a (by omega), axn_a (by omega), j3o _ (by omega)]; exact e51
            · rw [axu_a (by omega), axn_a (by omega), j3o _ (by omega)]; exact e71
            · rw [axu_j (by decide), axu_a (by omega), axn_a (by omega)]; exact konto1
            · rw [axu_a (by omega), axu_a (by omega), axn_a (by omega)]; exact e31 k v hv
            · rw [axu_a (by omega), axu_a (by omega), axn_a (by omega)]; exact e41 k v hv
            · have e9 : ax_u (ax_n J3 z row) (a + 192 + 2) 0 (ax_n J3 z row (a + 192 + 2) 0 + 1) (a + 194) 0 = ax_n J3 z row (a + 194) 0 + 1 := axu_s
              rw [e9, axn_a (by omega), j3f 0 (by decide), f01]
            · have e9 : ax_u (ax_n J3 z row) (a + 192 + 2) 0 (ax_n J3 z row (a + 192 + 2) 0 + 1) (a + 194) 1 = ax_n J3 z row (a + 194) 1 := axu_j (by decide)
              rw [e9, axn_a (by omega), j3f 1 (by decide)]; exact f11
            · rw [if_neg (fun h9 => h9 rfl), if_neg hno, if_neg hno2]
              exact ⟨rfl, rfl, rfl⟩
          · have hk2 : σ (o + 1) x = 2 := by
              first
              | exact b108
              | exact Decidable.of_not_not b108
            have hno : ¬ (σ (o + 1) x = 0 ∧ L = M.1) := fun h9 => by rw [hk2] at h9; exact absurd h9.1 (by decide)
            have hm0 : 0 < ma := by
              rcases hma with ⟨-, e9⟩ | ⟨e9, -⟩
              · exact absurd (by rw [e9]) b119
              · exact e9
            refine x_aload_n (pc := 122) hC dX11_place_122 rfl ?_
            refine x_getO (pc := 123) hC gf_X11_279 dX11_place_123 (fx_re hx).2.1.1 ktop1 ?_
            refine x_aload_n (pc := 126) hC dX11_place_126 rfl ?_
            refine x_getO (pc := 127) hC gf_X11_36 dX11_place_127 (fx_ta hx) (fx_mg hx1).1 ?_
            refine x_callV (pc := 130) hC cv_X11_195 dX11_place_130 (c_copyResult (fx_mg hx1).2 x13 m1 (by omega) (by omega)) (fx_mg hx1).2.1 rfl (by decide) (by omega) (by omega) rfl rfl (Nat.le_of_ble_eq_true rfl) (fun _ _ _ _ _ _ hq => ?_)
            obtain ⟨rfl, rfl, rfl, rfl, rfl, row, rfl, hrow⟩ := hq
            dsimp only [Option.toList, List.cons_append, List.nil_append]
            have h4 : RelA G (ax_n T z 13) (ax_n N z (M.1.length : Int)) (ax_n J3 z row) (ax_n S z (fun _ => none)) (z + 1) a o σ A w := rl_nw h3
            have hx4 := rl_fx h4
            have hTa4 := fx_ta hx4
            have hT9 := (fx_re hx4).2.1.1
            have zx := tz0 (A x) (by rcases kx with e9 | e9 | e9 <;> omega)
            have zt := tz0 tt (by rcases kt with e9 | e9 | e9 <;> omega)
            have kx4 : pT (ax_n T z 13 (A x)) := by rw [axn_a (by omega)]; exact kx
            have kt4 : pT (ax_n T z 13 tt) := by rw [axn_a (by omega)]; exact kt
            refine x_putO (pc := 133) hC (pp_X11_133 kt4) dX11_place_133 (Or.inr ⟨_, rfl⟩) rfl (by decide) ?_
            have ht190 : tt = a + 190 := by
              rcases hma with ⟨e9, -⟩ | ⟨-, e9⟩
              · omega
              · exact e9
            have hfig : ax_u (ax_n S z (fun _ => none)) tt 4 (some z) (a + 189) 9 = some (a + 192 + 2) := by rw [ht190, axu_a (by omega)]; exact (fx_re hx4).2.1.2.2.2.1.1
            refine x_aload_n (pc := 136) hC dX11_place_136 rfl ?_
            refine x_getO (pc := 137) hC gf_X11_210 dX11_place_137 hT9 hfig ?_
            refine x_iconst (pc := 140) hC dX11_place_140 ?_
            refine x_dup2 (pc := 141) hC dX11_place_141 rfl rfl ?_
            refine x_iald (pc := 142) hC dX11_place_142 (fx_re hx4).2.1.2.2.2.1.2.1 (by omega) (by rw [(fx_re hx4).2.1.2.2.2.1.2.2]; omega) ?_
            refine x_iconst (pc := 143) hC dX11_place_143 ?_
            refine x_iadd (pc := 144) hC dX11_place_144 ?_
            refine x_iast (pc := 145) hC dX11_place_145 (fx_re hx4).2.1.2.2.2.1.2.1 (by omega) (by rw [(fx_re hx4).2.1.2.2.2.1.2.2]; omega) ?_
            refine x_goto (pc := 146) hC 225 dX11_place_146 (by decide) ?_
            refine x_iconst (pc := 225) hC dX11_place_225 ?_
            refine x_iret (pc := 226) hC rfl dX11_place_226 ?_
            have hzr : rwS (ax_n T z 13) (ax_n N z (M.1.length : Int)) (ax_n J3 z row) z := by
              unfold rwS
              rw [axn_s, axn_s, axn_s]
              refine ⟨rfl, by omega, fun j j0 j1 => m2 _ ?_⟩
              rw [← hrow]
              exact seg_mem.mpr ⟨j, j0, j1, rfl⟩
            have cAz : ∀ d, 0 ≤ d → d < σ o 2 → A d ≠ z := fun d d0 d1 => by
              have := (rl_wo h d0 d1).2.2.2.1
              have := tz0 (A d) (by rcases this with e9 | e9 | e9 <;> omega)
              omega
            have s5 : scK (ax_n T z 13) (ax_n N z (M.1.length : Int)) a (ax_n J3 z row) (ax_u (ax_n J3 z row) (a + 192 + 2) 2 (ax_n J3 z row (a + 192 + 2) 2 + 1)) (ax_n S z (fun _ => none)) (ax_u (ax_n S z (fun _ => none)) tt 4 (some z)) := sc_rh (fun q hq => ⟨axu_row (by omega), by rw [ht190]; exact axu_row (by omega)⟩) (fun k _ _ => by rw [ht190, axu_a (by omega)])
            refine ⟨rfl, hfr3.tr ((fro_nw b1 b2).tr (fro_sc s5 b1)), by omega, rl_sc h4 s5, tt, z, M.1, ma, lv, ⟨⟨?_, ?_⟩, ⟨?_, ?_⟩, fun k v hv => ?_, fun k v hv => ?_, ⟨?_, ?_⟩, ⟨kt4, axu_s, rwS_fr hzr (axu_row (by omega)), by rw [axu_row (by omega), axn_s, axn_s]; exact hrow, axn_s, Or.inr (by omega)⟩, ⟨ma0, hma⟩⟩, ?_⟩
            · rw [axu_a (by omega), axn_a (by omega), j3o _ (by omega)]; exact e51
            · rw [axu_a (by omega), axn_a (by omega), j3o _ (by omega)]; exact e71
            · rw [ht190, axu_a (by omega), axn_a (by omega)]; exact konto1
            · rw [ht190, axu_a (by omega), axn_a (by omega), ← ht190]; exact ktop1
            · rw [ht190, axu_a (by omega), axn_a (by omega)]; exact e31 k v hv
            · rw [ht190, axu_a (by omega), axn_a (by omega)]; exact e41 k v hv
            · have e9 : ax_u (ax_n J3 z row) (a + 192 + 2) 2 (ax_n J3 z row (a + 192 + 2) 2 + 1) (a + 194) 0 = ax_n J3 z row (a + 194) 0 := axu_j (by decide)
              rw [e9, axn_a (by omega), j3f 0 (by decide)]; exact f01
            · have e9 : ax_u (ax_n J3 z row) (a + 192 + 2) 2 (ax_n J3 z row (a + 192 + 2) 2 + 1) (a + 194) 1 = ax_n J3 z row (a + 194) 1 := axu_j (by decide)
              rw [e9, axn_a (by omega), j3f 1 (by decide)]; exact f11
            · rw [if_neg (fun h9 => h9 rfl), if_neg hno, if_pos ⟨hk2, hm0⟩]
              exact ⟨rfl, by omega, rfl⟩
      · refine x_aload_n (pc := 73) hC dX11_place_73 rfl ?_
        refine x_getO (pc := 74) hC gf_X11_36 dX11_place_74 (fx_ta hx) (fx_mg hx1).1 ?_
        refine x_aload_n (pc := 77) hC dX11_place_77 rfl ?_
        refine x_getO (pc := 78) hC gf_X11_279 dX11_place_78 (fx_re hx).2.1.1 ktop1 ?_
        refine x_getO (pc := 81) hC (gp_X11_133 kt) dX11_place_81 rfl h71 ?_
        refine x_mV (pc := 84) hC cv_X11_199 dX11_place_84 hre3 (fx_mg hx1).2.1 rfl (by decide) rfl rfl (Nat.le_of_ble_eq_true rfl) ?_
        dsimp only [Option.toList, List.cons_append, List.nil_append]
        refine x_ifB_eq (pc := 87) hC 103 dX11_place_87 (by decide) (fun b87 => ?_) (fun b87 => ?_)
        · refine x_aload_n (pc := 103) hC dX11_place_103 rfl ?_
          refine x_kind (pc := 104) hC kx dX11_place_104 (by decide) rfl (Nat.le_of_ble_eq_true rfl) ?_
          rw [hkd]
          refine x_iconst (pc := 107) hC dX11_place_107 ?_
          refine x_icmp_ne (pc := 108) hC 149 dX11_place_108 (by decide) hkr (by omega) (fun b108 => ?_) (fun b108 => ?_)
          · have hno : ¬ (σ (o + 1) x = 0 ∧ L = M.1) := fun h9 => by
              first
              | exact b87 h9.2.symm
              | exact b70 h9.1
            have hno2 : ¬ (σ (o + 1) x = 2 ∧ 0 < ma) := fun h9 => by
              first
              | exact b108 h9.1
              | (rcases hma with ⟨e9, -⟩ | ⟨-, e9⟩
                 · exact absurd h9.2 (by rw [e9]; decide)
                 · have e8 : tt = A c := Option.some.inj b119
                   have := ac
                   rw [e9] at e8
                   omega)
            have kd : pT (T (a + 190)) := by rw [(fx_re hx1).2.2.2]; decide
            refine x_aload_n (pc := 149) hC dX11_place_149 rfl ?_
            refine x_getO (pc := 150) hC gf_X11_393 dX11_place_150 (fx_re hx).2.1.1 (fx_re hx1).2.2.1 ?_
            refine x_ifnonnull (pc := 153) hC 193 dX11_place_153 (by decide) (fun _ _ => ?_) (fun h => by cases h)
            refine x_aload_n (pc := 193) hC dX11_place_193 rfl ?_
            refine x_getO (pc := 194) hC gf_X11_393 dX11_place_194 (fx_re hx).2.1.1 (fx_re hx1).2.2.1 ?_
            refine x_aload_n (pc := 197) hC dX11_place_197 rfl ?_
            refine x_getO (pc := 198) hC gf_X11_36 dX11_place_198 (fx_ta hx) (fx_mg hx1).1 ?_
            refine x_callV (pc := 201) hC cv_X11_195 dX11_place_201 (c_copyResult (fx_mg hx1).2 x13 m1 (by omega) (by omega)) (fx_mg hx1).2.1 rfl (by decide) (by omega) (by omega) rfl rfl (Nat.le_of_ble_eq_true rfl) (fun _ _ _ _ _ _ hq => ?_)
            obtain ⟨rfl, rfl, rfl, rfl, rfl, row, rfl, hrow⟩ := hq
            dsimp only [Option.toList, List.cons_append, List.nil_append]
            have h4 : RelA G (ax_n T z 13) (ax_n N z (M.1.length : Int)) (ax_n J3 z row) (ax_n S z (fun _ => none)) (z + 1) a o σ A w := rl_nw h3
            have hx4 := rl_fx h4
            have hTa4 := fx_ta hx4
            have hT9 := (fx_re hx4).2.1.1
            have zx := tz0 (A x) (by rcases kx with e9 | e9 | e9 <;> omega)
            have zt := tz0 tt (by rcases kt with e9 | e9 | e9 <;> omega)
            have kx4 : pT (ax_n T z 13 (A x)) := by rw [axn_a (by omega)]; exact kx
            have kt4 : pT (ax_n T z 13 tt) := by rw [axn_a (by omega)]; exact kt
            have hT190 : pT (ax_n T z 13 (a + 190)) := by rw [(fx_re hx4).2.2.2]; decide
            refine x_putO (pc := 204) hC (pp_X11_133 hT190) dX11_place_204 (Or.inr ⟨_, rfl⟩) rfl (by decide) ?_
            refine x_aload_n (pc := 207) hC dX11_place_207 rfl ?_
            refine x_aload_n (pc := 208) hC dX11_place_208 rfl ?_
            refine x_getO (pc := 209) hC gf_X11_393 dX11_place_209 hT9 (Eq.trans (axu_a (by omega)) (fx_re hx4).2.2.1) ?_
            refine x_putO (pc := 212) hC pf_X11_279 dX11_place_212 (Or.inl ⟨_, rfl⟩) hT9 (by decide) ?_
            have hfig : ax_u (ax_u (ax_n S z (fun _ => none)) (a + 190) 4 (some z)) (a + 189) 3 (some (a + 190)) (a + 189) 9 = some (a + 192 + 2) := by rw [axu_j (by decide), axu_a (by omega)]; exact (fx_re hx4).2.1.2.2.2.1.1
            refine x_aload_n (pc := 215) hC dX11_place_215 rfl ?_
            refine x_getO (pc := 216) hC gf_X11_210 dX11_place_216 hT9 hfig ?_
            refine x_iconst (pc := 219) hC dX11_place_219 ?_
            refine x_dup2 (pc := 220) hC dX11_place_220 rfl rfl ?_
            refine x_iald (pc := 221) hC dX11_place_221 (fx_re hx4).2.1.2.2.2.1.2.1 (by omega) (by rw [(fx_re hx4).2.1.2.2.2.1.2.2]; omega) ?_
            refine x_iconst (pc := 222) hC dX11_place_222 ?_
            refine x_iadd (pc := 223) hC dX11_place_223 ?_
            refine x_iast (pc := 224) hC dX11_place_224 (fx_re hx4).2.1.2.2.2.1.2.1 (by omega) (by rw [(fx_re hx4).2.1.2.2.2.1.2.2]; omega) ?_
            refine x_iconst (pc := 225) hC dX11_place_225 ?_
            refine x_iret (pc := 226) hC rfl dX11_place_226 ?_
            have hzr : rwS (ax_n T z 13) (ax_n N z (M.1.length : Int)) (ax_n J3 z row) z := by
              unfold rwS
              rw [axn_s, axn_s, axn_s]
              refine ⟨rfl, by omega, fun j j0 j1 => m2 _ ?_⟩
              rw [← hrow]
              exact seg_mem.mpr ⟨j, j0, j1, rfl⟩
            have cAz : ∀ d, 0 ≤ d → d < σ o 2 → A d ≠ z := fun d d0 d1 => by
              have := (rl_wo h d0 d1).2.2.2.1
              have := tz0 (A d) (by rcases this with e9 | e9 | e9 <;> omega)
              omega
            have s5 : scK (ax_n T z 13) (ax_n N z (M.1.length : Int)) a (ax_n J3 z row) (ax_u (ax_n J3 z row) (a + 192 + 2) 0 (ax_n J3 z row (a + 192 + 2) 0 + 1)) (ax_n S z (fun _ => none)) (ax_u (ax_u (ax_n S z (fun _ => none)) (a + 190) 4 (some z)) (a + 189) 3 (some (a + 190))) := sc_rh (fun q hq => ⟨axu_row (by omega), by rw [axu_row (by omega), axu_row (by omega)]⟩) (fun k _ h3 => by rw [axu_j h3, axu_a (by omega)])
            refine ⟨rfl, hfr3.tr ((fro_nw b1 b2).tr (fro_sc s5 b1)), by omega, rl_sc h4 s5, a + 190, z, M.1, ma + 1, lv, ⟨⟨?_, ?_⟩, ⟨?_, axu_s⟩, fun k v hv => ?_, fun k v hv => ?_, ⟨?_, ?_⟩, ⟨hT190, by rw [axu_a (by omega), axu_s], rwS_fr hzr (axu_row (by omega)), by rw [axu_row (by omega), axn_s, axn_s]; exact hrow, axn_s, Or.inr (by omega)⟩, ⟨by omega, Or.inr ⟨by omega, rfl⟩⟩⟩, ?_⟩
            · rw [axu_a (by omega), axn_a (by omega), j3o _ (by omega)]; exact e51
            · rw [axu_a (by omega), axn_a (by omega), j3o _ (by omega)]; exact e71
            · rw [axu_j (by decide), axu_a (by omega), axn_a (by omega)]; exact konto1
            · rw [axu_a (by omega), axu_a (by omega), axn_a (by omega)]; exact e31 k v hv
            · rw [axu_a (by omega), axu_a (by omega), axn_a (by omega)]; exact e41 k v hv
            · have e9 : ax_u (ax_n J3 z row) (a + 192 + 2) 0 (ax_n J3 z row (a + 192 + 2) 0 + 1) (a + 194) 0 = ax_n J3 z row (a + 194) 0 + 1 := axu_s
              rw [e9, axn_a (by omega), j3f 0 (by decide), f01]
            · have e9 : ax_u (ax_n J3 z row) (a + 192 + 2) 0 (ax_n J3 z row (a + 192 + 2) 0 + 1) (a + 194) 1 = ax_n J3 z row (a + 194) 1 := axu_j (by decide)
              rw [e9, axn_a (by omega), j3f 1 (by decide)]; exact f11
            · rw [if_neg (fun h9 => h9 rfl), if_neg hno, if_neg hno2]
              exact ⟨rfl, rfl, rfl⟩
          · refine x_aload_n (pc := 111) hC dX11_place_111 rfl ?_
            refine x_getO (pc := 112) hC gf_X11_279 dX11_place_112 (fx_re hx).2.1.1 ktop1 ?_
            refine x_aload_n (pc := 115) hC dX11_place_115 rfl ?_
            refine x_getO (pc := 116) hC gf_X11_390 dX11_place_116 (fx_re hx).2.1.1 konto1 ?_
            refine x_acmp_eq (pc := 119) hC 149 dX11_place_119 (by decide) (fun b119 => ?_) (fun b119 => ?_)
            · have hno : ¬ (σ (o + 1) x = 0 ∧ L = M.1) := fun h9 => by
                first
                | exact b87 h9.2.symm
                | exact b70 h9.1
              have hno2 : ¬ (σ (o + 1) x = 2 ∧ 0 < ma) := fun h9 => by
                first
                | exact b108 h9.1
                | (rcases hma with ⟨e9, -⟩ | ⟨-, e9⟩
                   · exact absurd h9.2 (by rw [e9]; decide)
                   · have e8 : tt = A c := Option.some.inj b119
                     have := ac
                     rw [e9] at e8
                     omega)
              have kd : pT (T (a + 190)) := by rw [(fx_re hx1).2.2.2]; decide
              refine x_aload_n (pc := 149) hC dX11_place_149 rfl ?_
              refine x_getO (pc := 150) hC gf_X11_393 dX11_place_150 (fx_re hx).2.1.1 (fx_re hx1).2.2.1 ?_
              refine x_ifnonnull (pc := 153) hC 193 dX11_place_153 (by decide) (fun _ _ => ?_) (fun h => by cases h)
              refine x_aload_n (pc := 193) hC dX11_place_193 rfl ?_
              refine x_getO (pc := 194) hC gf_X11_393 dX11_place_194 (fx_re hx).2.1.1 (fx_re hx1).2.2.1 ?_
              refine x_aload_n (pc := 197) hC dX11_place_197 rfl ?_
              refine x_getO (pc := 198) hC gf_X11_36 dX11_place_198 (fx_ta hx) (fx_mg hx1).1 ?_
              refine x_callV (pc := 201) hC cv_X11_195 dX11_place_201 (c_copyResult (fx_mg hx1).2 x13 m1 (by omega) (by omega)) (fx_mg hx1).2.1 rfl (by decide) (by omega) (by omega) rfl rfl (Nat.le_of_ble_eq_true rfl) (fun _ _ _ _ _ _ hq => ?_)
              obtain ⟨rfl, rfl, rfl, rfl, rfl, row, rfl, hrow⟩ := hq
              dsimp only [Option.toList, List.cons_append, List.nil_append]
              have h4 : RelA G (ax_n T z 13) (ax_n N z (M.1.length : Int)) (ax_n J3 z row) (ax_n S z (fun _ => none)) (z + 1) a o σ A w := rl_nw h3
              have hx4 := rl_fx h4
              have hTa4 := fx_ta hx4
              have hT9 := (fx_re hx4).2.1.1
              have zx := tz0 (A x) (by rcases kx with e9 | e9 | e9 <;> omega)
              have zt := tz0 tt (by rcases kt with e9 | e9 | e9 <;> omega)
              have kx4 : pT (ax_n T z 13 (A x)) := by rw [axn_a (by omega)]; exact kx
              have kt4 : pT (ax_n T z 13 tt) := by rw [axn_a (by omega)]; exact kt
              have hT190 : pT (ax_n T z 13 (a + 190)) := by rw [(fx_re hx4).2.2.2]; decide
              refine x_putO (pc := 204) hC (pp_X11_133 hT190) dX11_place_204 (Or.inr ⟨_, rfl⟩) rfl (by decide) ?_
              refine x_aload_n (pc := 207) hC dX11_place_207 rfl ?_
              refine x_aload_n (pc := 208) hC dX11_place_208 rfl ?_
              refine x_getO (pc := 209) hC gf_X11_393 dX11_place_209 hT9 (Eq.trans (axu_a (by omega)) (fx_re hx4).2.2.1) ?_
              refine x_putO (pc := 212) hC pf_X11_279 dX11_place_212 (Or.inl ⟨_, rfl⟩) hT9 (by decide) ?_
              have hfig : ax_u (ax_u (ax_n S z (fun _ => none)) (a + 190) 4 (some z)) (a + 189) 3 (some (a + 190)) (a + 189) 9 = some (a + 192 + 2) := by rw [axu_j (by decide), axu_a (by omega)]; exact (fx_re hx4).2.1.2.2.2.1.1
              refine x_aload_n (pc := 215) hC dX11_place_215 rfl ?_
              refine x_getO (pc := 216) hC gf_X11_210 dX11_place_216 hT9 hfig ?_
              refine x_iconst (pc := 219) hC dX11_place_219 ?_
              refine x_dup2 (pc := 220) hC dX11_place_220 rfl rfl ?_
              refine x_iald (pc := 221) hC dX11_place_221 (fx_re hx4).2.1.2.2.2.1.2.1 (by omega) (by rw [(fx_re hx4).2.1.2.2.2.1.2.2]; omega) ?_
              refine x_iconst (pc := 222) hC dX11_place_222 ?_
              refine x_iadd (pc := 223) hC dX11_place_223 ?_
              refine x_iast (pc := 224) hC dX11_place_224 (fx_re hx4).2.1.2.2.2.1.2.1 (by omega) (by rw [(fx_re hx4).2.1.2.2.2.1.2.2]; omega) ?_
              refine x_iconst (pc := 225) hC dX11_place_225 ?_
              refine x_iret (pc := 226) hC rfl dX11_place_226 ?_
              have hzr : rwS (ax_n T z 13) (ax_n N z (M.1.length : Int)) (ax_n J3 z row) z := by
                unfold rwS
                rw [axn_s, axn_s, axn_s]
                refine ⟨rfl, by omega, fun j j0 j1 => m2 _ ?_⟩
                rw [← hrow]
                exact seg_mem.mpr ⟨j, j0, j1, rfl⟩
              have cAz : ∀ d, 0 ≤ d → d < σ o 2 → A d ≠ z := fun d d0 d1 => by
                have := (rl_wo h d0 d1).2.2.2.1
                have := tz0 (A d) (by rcases this with e9 | e9 | e9 <;> omega)
                omega
              have s5 : scK (ax_n T z 13) (ax_n N z (M.1.length : Int)) a (ax_n J3 z row) (ax_u (ax_n J3 z row) (a + 192 + 2) 0 (ax_n J3 z row (a + 192 + 2) 0 + 1)) (ax_n S z (fun _ => none)) (ax_u (ax_u (ax_n S z (fun _ => none)) (a + 190) 4 (some z)) (a + 189) 3 (some (a + 190))) := sc_rh (fun q hq => ⟨axu_row (by omega), by rw [axu_row (by omega), axu_row (by omega)]⟩) (fun k _ h3 => by rw [axu_j h3, axu_a (by omega)])
              refine ⟨rfl, hfr3.tr ((fro_nw b1 b2).tr (fro_sc s5 b1)), by omega, rl_sc h4 s5, a + 190, z, M.1, ma + 1, lv, ⟨⟨?_, ?_⟩, ⟨?_, axu_s⟩, fun k v hv => ?_, fun k v hv => ?_, ⟨?_, ?_⟩, ⟨hT190, by rw [axu_a (by omega), axu_s], rwS_fr hzr (axu_row (by omega)), by rw [axu_row (by omega), axn_s, axn_s]; exact hrow, axn_s, Or.inr (by omega)⟩, ⟨by omega, Or.inr ⟨by omega, rfl⟩⟩⟩, ?_⟩
              · rw [axu_a (by omega), axn_a (by omega), j3o _ (by omega)]; exact e51
              · rw [axu_a (by omega), axn_a (by omega), j3o _ (by omega)]; exact e71
              · rw [axu_j (by decide), axu_a (by omega), axn_a (by omega)]; exact konto1
              · rw [axu_a (by omega), axu_a (by omega), axn_a (by omega)]; exact e31 k v hv
              · rw [axu_a (by omega), axu_a (by omega), axn_a (by omega)]; exact e41 k v hv
              · have e9 : ax_u (ax_n J3 z row) (a + 192 + 2) 0 (ax_n J3 z row (a + 192 + 2) 0 + 1) (a + 194) 0 = ax_n J3 z row (a + 194) 0 + 1 := axu_s
                rw [e9, axn_a (by omega), j3f 0 (by decide), f01]
              · have e9 : ax_u (ax_n J3 z row) (a + 192 + 2) 0 (ax_n J3 z row (a + 192 + 2) 0 + 1) (a + 194) 1 = ax_n J3 z row (a + 194) 1 := axu_j (by decide)
                rw [e9, axn_a (by omega), j3f 1 (by decide)]; exact f11
              · rw [if_neg (fun h9 => h9 rfl), if_neg hno, if_neg hno2]
                exact ⟨rfl, rfl, rfl⟩
            · have hk2 : σ (o + 1) x = 2 := by
                first
                | exact b108
                | exact Decidable.of_not_not b108
              have hno : ¬ (σ (o + 1) x = 0 ∧ L = M.1) := fun h9 => by rw [hk2] at h9; exact absurd h9.1 (by decide)
              have hm0 : 0 < ma := by
                rcases hma with ⟨-, e9⟩ | ⟨e9, -⟩
                · exact absurd (by rw [e9]) b119
                · exact e9
              refine x_aload_n (pc := 122) hC dX11_place_122 rfl ?_
              refine x_getO (pc := 123) hC gf_X11_279 dX11_place_123 (fx_re hx).2.1.1 ktop1 ?_
              refine x_aload_n (pc := 126) hC dX11_place_126 rfl ?_
              refine x_getO (pc := 127) hC gf_X11_36 dX11_place_127 (fx_ta hx) (fx_mg hx1).1 ?_
              refine x_callV (pc := 130) hC cv_X11_195 dX11_place_130 (c_copyResult (fx_mg hx1).2 x13 m1 (by omega) (by omega)) (fx_mg hx1).2.1 rfl (by decide) (by omega) (by omega) rfl rfl (Nat.le_of_ble_eq_true rfl) (fun _ _ _ _ _ _ hq => ?_)
              obtain ⟨rfl, rfl, rfl, rfl, rfl, row, rfl, hrow⟩ := hq
              dsimp only [Option.toList, List.cons_append, List.nil_append]
              have h4 : RelA G (ax_n T z 13) (ax_n N z (M.1.length : Int)) (ax_n J3 z row) (ax_n S z (fun _ => none)) (z + 1) a o σ A w := rl_nw h3
              have hx4 := rl_fx h4
              have hTa4 := fx_ta hx4
              have hT9 := (fx_re hx4).2.1.1
              have zx := tz0 (A x) (by rcases kx with e9 | e9 | e9 <;> omega)
              have zt := tz0 tt (by rcases kt with e9 | e9 | e9 <;> omega)
              have kx4 : pT (ax_n T z 13 (A x)) := by rw [axn_a (by omega)]; exact kx
              have kt4 : pT (ax_n T z 13 tt) := by rw [axn_a (by omega)]; exact kt
              refine x_putO (pc := 133) hC (pp_X11_133 kt4) dX11_place_133 (Or.inr ⟨_, rfl⟩) rfl (by decide) ?_
              have ht190 : tt = a + 190 := by
                rcases hma with ⟨e9, -⟩ | ⟨-, e9⟩
                · omega
                · exact e9
              have hfig : ax_u (ax_n S z (fun _ => none)) tt 4 (some z) (a + 189) 9 = some (a + 192 + 2) := by rw [ht190, axu_a (by omega)]; exact (fx_re hx4).2.1.2.2.2.1.1
              refine x_aload_n (pc := 136) hC dX11_place_136 rfl ?_
              refine x_getO (pc := 137) hC gf_X11_210 dX11_place_137 hT9 hfig ?_
              refine x_iconst (pc := 140) hC dX11_place_140 ?_
              refine x_dup2 (pc := 141) hC dX11_place_141 rfl rfl ?_
              refine x_iald (pc := 142) hC dX11_place_142 (fx_re hx4).2.1.2.2.2.1.2.1 (by omega) (by rw [(fx_re hx4).2.1.2.2.2.1.2.2]; omega) ?_
              refine x_iconst (pc := 143) hC dX11_place_143 ?_
              refine x_iadd (pc := 144) hC dX11_place_144 ?_
              refine x_iast (pc := 145) hC dX11_place_145 (fx_re hx4).2.1.2.2.2.1.2.1 (by omega) (by rw [(fx_re hx4).2.1.2.2.2.1.2.2]; omega) ?_
              refine x_goto (pc := 146) hC 225 dX11_place_146 (by decide) ?_
              refine x_iconst (pc := 225) hC dX11_place_225 ?_
              refine x_iret (pc := 226) hC rfl dX11_place_226 ?_
              have hzr : rwS (ax_n T z 13) (ax_n N z (M.1.length : Int)) (ax_n J3 z row) z := by
                unfold rwS
                rw [axn_s, axn_s, axn_s]
                refine ⟨rfl, by omega, fun j j0 j1 => m2 _ ?_⟩
                rw [← hrow]
                exact seg_mem.mpr ⟨j, j0, j1, rfl⟩
              have cAz : ∀ d, 0 ≤ d → d < σ o 2 → A d ≠ z := fun d d0 d1 => by
                have := (rl_wo h d0 d1).2.2.2.1
                have := tz0 (A d) (by rcases this with e9 | e9 | e9 <;> omega)
                omega
              have s5 : scK (ax_n T z 13) (ax_n N z (M.1.length : Int)) a (ax_n J3 z row) (ax_u (ax_n J3 z row) (a + 192 + 2) 2 (ax_n J3 z row (a + 192 + 2) 2 + 1)) (ax_n S z (fun _ => none)) (ax_u (ax_n S z (fun _ => none)) tt 4 (some z)) := sc_rh (fun q hq => ⟨axu_row (by omega), by rw [ht190]; exact axu_row (by omega)⟩) (fun k _ _ => by rw [ht190, axu_a (by omega)])
              refine ⟨rfl, hfr3.tr ((fro_nw b1 b2).tr (fro_sc s5 b1)), by omega, rl_sc h4 s5, tt, z, M.1, ma, lv, ⟨⟨?_, ?_⟩, ⟨?_, ?_⟩, fun k v hv => ?_, fun k v hv => ?_, ⟨?_, ?_⟩, ⟨kt4, axu_s, rwS_fr hzr (axu_row (by omega)), by rw [axu_row (by omega), axn_s, axn_s]; exact hrow, axn_s, Or.inr (by omega)⟩, ⟨ma0, hma⟩⟩, ?_⟩
              · rw [axu_a (by omega), axn_a (by omega), j3o _ (by omega)]; exact e51
              · rw [axu_a (by omega), axn_a (by omega), j3o _ (by omega)]; exact e71
              · rw [ht190, axu_a (by omega), axn_a (by omega)]; exact konto1
              · rw [ht190, axu_a (by omega), axn_a (by omega), ← ht190]; exact ktop1
              · rw [ht190, axu_a (by omega), axn_a (by omega)]; exact e31 k v hv
              · rw [ht190, axu_a (by omega), axn_a (by omega)]; exact e41 k v hv
              · have e9 : ax_u (ax_n J3 z row) (a + 192 + 2) 2 (ax_n J3 z row (a + 192 + 2) 2 + 1) (a + 194) 0 = ax_n J3 z row (a + 194) 0 := axu_j (by decide)
                rw [e9, axn_a (by omega), j3f 0 (by decide)]; exact f01
              · have e9 : ax_u (ax_n J3 z row) (a + 192 + 2) 2 (ax_n J3 z row (a + 192 + 2) 2 + 1) (a + 194) 1 = ax_n J3 z row (a + 194) 1 := axu_j (by decide)
                rw [e9, axn_a (by omega), j3f 1 (by decide)]; exact f11
              · rw [if_neg (fun h9 => h9 rfl), if_neg hno, if_pos ⟨hk2, hm0⟩]
                exact ⟨rfl, by omega, rfl⟩
        · refine x_aload_n (pc := 90) hC dX11_place_90 rfl ?_
          refine x_getO (pc := 91) hC gf_X11_210 dX11_place_91 (fx_re hx).2.1.1 (fx_re hx1).2.1.2.2.2.1.1 ?_
          refine x_iconst (pc := 94) hC dX11_place_94 ?_
          refine x_dup2 (pc := 95) hC dX11_place_95 rfl rfl ?_
          refine x_iald (pc := 96) hC dX11_place_96 (fx_re hx1).2.1.2.2.2.1.2.1 (by omega) (by rw [(fx_re hx1).2.1.2.2.2.1.2.2]; omega) ?_
          refine x_iconst (pc := 97) hC dX11_place_97 ?_
          refine x_iadd (pc := 98) hC dX11_place_98 ?_
          refine x_iast (pc := 99) hC dX11_place_99 (fx_re hx1).2.1.2.2.2.1.2.1 (by omega) (by rw [(fx_re hx1).2.1.2.2.2.1.2.2]; omega) ?_
          refine x_goto (pc := 100) hC 225 dX11_place_100 (by decide) ?_
          refine x_iconst (pc := 225) hC dX11_place_225 ?_
          refine x_iret (pc := 226) hC rfl dX11_place_226 ?_
          have hyes : σ (o + 1) x = 0 ∧ L = M.1 := ⟨by assumption, b87.symm⟩
          have s4 : scK T N a J3 (ax_u J3 (a + 192 + 2) 1 (J3 (a + 192 + 2) 1 + 1)) S S := sc_rh (fun q hq => ⟨axu_row (by omega), rfl⟩) (fun _ _ _ => rfl)
          refine ⟨rfl, hfr3.tr (fro_sc s4 b1), Nat.le_refl _, rl_sc h3 s4, tt, r, L, ma, lv + 1, ⟨⟨by rw [axu_a (by omega), j3o _ (by omega)]; exact e51, by rw [axu_a (by omega), j3o _ (by omega)]; exact e71⟩, ⟨konto1, ktop1⟩, e31, e41, ⟨?_, ?_⟩, ⟨kt, h71, ?_, ?_, h101, h11⟩, ⟨ma0, hma⟩⟩, ?_⟩
          · have e9 : ax_u J3 (a + 192 + 2) 1 (J3 (a + 192 + 2) 1 + 1) (a + 194) 0 = J3 (a + 194) 0 := axu_j (by decide)
            rw [e9, j3f 0 (by decide)]; exact f01
          · have e9 : ax_u J3 (a + 192 + 2) 1 (J3 (a + 192 + 2) 1 + 1) (a + 194) 1 = J3 (a + 194) 1 + 1 := axu_s
            rw [e9, j3f 1 (by decide), f11]
          · exact rwS_fr h81 (by rw [axu_row (by omega)]; exact r3)
          · rw [axu_row (by omega), r3]; exact h91
          · rw [if_neg (fun h9 => h9 rfl), if_pos hyes]
            exact ⟨rfl, rfl, rfl⟩
    · refine x_iconst (pc := 48) hC dX11_place_48 ?_
      refine x_iret (pc := 49) hC rfl dX11_place_49 ?_
      have hst : stp M = 2 := by unfold stp; rw [if_neg (by omega), if_pos (by omega)]
      rw [hst]
      refine ⟨rfl, hfr1, Nat.le_refl _, h1, tt, r, L, ma, lv, ⟨⟨e51, e71⟩, ⟨konto1, ktop1⟩, e31, e41, ⟨f01, f11⟩, ⟨kt, h71, h81, h91, h101, h11⟩, ⟨ma0, hma⟩⟩, ?_⟩
      rw [if_pos (by decide)]
      exact ⟨rfl, rfl, rfl, x3⟩
  · refine x_iconst (pc := 34) hC dX11_place_34 ?_
    refine x_iret (pc := 35) hC rfl dX11_place_35 ?_
    have hst : stp M = 1 := by unfold stp; rw [if_pos (by omega)]
    rw [hst]
    refine ⟨rfl, hfr1, Nat.le_refl _, h1, tt, r, L, ma, lv, ⟨⟨e51, e71⟩, ⟨konto1, ktop1⟩, e31, e41, ⟨f01, f11⟩, ⟨kt, h71, h81, h91, h101, h11⟩, ⟨ma0, hma⟩⟩, ?_⟩
    rw [if_pos (by decide)]
    exact ⟨rfl, rfl, rfl, x3⟩

