/-! THE CLASS: three rows are merged -/
def pk (J : Nat → Int → Int) (S : Nat → Int → Option Nat) (g a b t : Nat) (w : Int) (l : List Gp) : Prop := ∀ q : Gp, 0 ≤ w → l[w.toNat]? = some q → ptW J S (g + 84) a q.1 q.2.1 ∧ ptW J S (g + 85) b q.2.2.1 q.2.2.2.1 ∧ ptW J S (g + 86) t q.2.2.2.2.1 q.2.2.2.2.2
theorem ptW_fr {J K : Nat → Int → Int} {S U : Nat → Int → Option Nat} {p a : Nat} {i e : Int} (h : ptW J S p a i e) (h1 : K p = J p) (h2 : U p = S p) : ptW K U p a i e := by
  unfold ptW at *
  rw [h1, h2]; exact h
theorem pk_fr {J K : Nat → Int → Int} {S U : Nat → Int → Option Nat} {g a b t : Nat} {w : Int} {l : List Gp} (h : pk J S g a b t w l) (hf : ∀ q, g + 84 ≤ q → q ≤ g + 86 → K q = J q ∧ U q = S q) : pk K U g a b t w l := fun q h0 hq => by
  obtain ⟨h1, h2, h3⟩ := h q h0 hq
  have f1 := hf (g + 84) (by omega) (by omega)
  have f2 := hf (g + 85) (by omega) (by omega)
  have f3 := hf (g + 86) (by omega) (by omega)
  exact ⟨ptW_fr h1 f1.1 f1.2, ptW_fr h2 f2.1 f2.2, ptW_fr h3 f3.1 f3.2⟩
theorem pk_step {J K : Nat → Int → Int} {S U : Nat → Int → Option Nat} {g a b t : Nat} {w n c : Int} {l : List Gp} (h : pk J S g a b t w l) (hn : n = l.length) (q9 : Gp) (hif : if c = 1 ∧ n = w then ptW K U (g + 84) a q9.1 q9.2.1 ∧ ptW K U (g + 85) b q9.2.2.1 q9.2.2.2.1 ∧ ptW K U (g + 86) t q9.2.2.2.2.1 q9.2.2.2.2.2 else (∀ q, g + 84 ≤ q → q ≤ g + 86 → K q = J q ∧ U q = S q)) : pk K U g a b t w (if c = 1 then l ++ [q9] else l) := by
  by_cases h1 : c = 1
  · rw [if_pos h1]
    by_cases h2 : n = w
    · rw [if_pos ⟨h1, h2⟩] at hif
      intro q h0 hq
      have : w.toNat = l.length := by omega
      rw [this, List.getElem?_append_right (Nat.le_refl _)] at hq
      simp at hq
      subst hq
      exact hif
    · rw [if_neg (fun h => h2 h.2)] at hif
      intro q h0 hq
      rcases Nat.lt_or_ge w.toNat l.length with h9 | h9
      · rw [List.getElem?_append_left h9] at hq
        exact pk_fr h hif q h0 hq
      · rw [List.getElem?_eq_none (by simp; omega)] at hq
        cases hq
  · rw [if_neg h1]
    rw [if_neg (fun h => h1 h.1)] at hif
    exact pk_fr h hif
def mgV (I J : Nat → Int → Int) (R S : Nat → Int → Option Nat) (g a b t : Nat) (w : Int) (s : List Int × Int × List Gp) : Prop := ((∀ q, q < g ∨ g + 93 ≤ q → J q = I q) ∧ (∀ q, q < g ∨ g + 93 ≤ q → S q = R q) ∧ mgF R S g ∧ J g 1 = I g 1) ∧ (rlS J g s.1 ∧ J g 4 = s.2.1 ∧ J g 5 = s.2.2.length) ∧ pk J S g a b t w s.2.2
theorem tk_split (rs : List (List Int × List Int)) (L B O Th : List Int) : (∃ X : List Int, gapV rs B O Th = (X, 0, 0) ∧ (if O = B then (L ++ Th, 1) else if Th = B ∨ Th = O then (L ++ O, 1) else (L, 0) : List Int × Int) = (L ++ X, 1)) ∨ (gapV rs B O Th = gapC rs B O Th ∧ (if O = B then (L ++ Th, 1) else if Th = B ∨ Th = O then (L ++ O, 1) else (L, 0) : List Int × Int) = (L, 0)) := by
  unfold gapV
  by_cases h1 : O = B
  · left; exact ⟨Th, by rw [if_pos h1], by rw [if_pos h1]⟩
  · by_cases h2 : Th = B ∨ Th = O
    · left; exact ⟨O, by rw [if_neg h1, if_pos h2], by rw [if_neg h1, if_pos h2]⟩
    · right; exact ⟨by rw [if_neg h1, if_neg h2], by rw [if_neg h1, if_neg h2]⟩
theorem rsSm_N {rs : List (List Int × List Int)} (h : rsN rs) : rsSm rs := fun p hp => ⟨(h p hp).2.2.1, (h p hp).2.2.2⟩
theorem rwS_fr {T : Nat → Nat} {N : Nat → Int} {I J : Nat → Int → Int} {r : Nat} (h : rwS T N I r) (hJ : J r = I r) : rwS T N J r := by
  unfold rwS at *; rw [hJ]; exact h

set_option maxHeartbeats 4000000 in
set_option maxRecDepth 100000 in
theorem c_mergeRows {G : ax_G} {T : Nat → Nat} {N : Nat → Int} {I : Nat → Int → Int} {R : Nat → Int → Option Nat} {z : Nat} {g a b t : Nat} {w : Int} {rs : List (List Int × List Int)} (hg : mgT T N R g) (hr : reS T N I R g rs) (hn : rsN rs) (hrk : ∀ p ∈ rs, rwOk p.1 p.2) (hw : ax_r w) (ha : rwS T N I a) (hb : rwS T N I b) (ht : rwS T N I t) (oa : a < g ∨ g + 93 ≤ a) (ob : b < g ∨ g + 93 ≤ b) (ot : t < g ∨ g + 93 ≤ t) : axR G YX3_mergeRows 3 [vR g, vR a, vR b, vR t, vI w] T N I R z (fun r1 I1 R1 => r1 = none ∧ mgV I I1 R R1 g a b t w (mrg rs (I a) (N a) (I b) (N b) (I t) (N t)) ∧ ((mrg rs (I a) (N a) (I b) (N b) (I t) (N t)).1.length ≤ 150 ∧ isLn (mrg rs (I a) (N a) (I b) (N b) (I t) (N t)).1) ∧ (mrg rs (I a) (N a) (I b) (N b) (I t) (N t)).2.2.length ≤ 17 ∧ ∀ q ∈ (mrg rs (I a) (N a) (I b) (N b) (I t) (N t)).2.2, gOk q) := by

  refine ax_enter (by decide) (Nat.le_of_ble_eq_true rfl) (ax_cat rfl) (fun f hC => ?_)
  show axX G f 0 0 _ 0 [vR g, vR a, vR b, vR t, vI w, vU, vU, vU, vU, vU, vU, vU] [] T N I R z 0 0
  have la := ha.2.1
  have lb := hb.2.1
  have lt := ht.2.1
  have mi1 : min (N a) 16 = N a := by omega
  have hsm := rsSm_N hn
  obtain ⟨full, hfull⟩ : ∃ l, l = (mrg rs (I a) (N a) (I b) (N b) (I t) (N t)) := ⟨_, rfl⟩
  rw [← hfull]
  have gap2 : ∀ (J : Nat → Int → Int) (S : Nat → Int → Option Nat) (s : List Int × Int × List Gp) (fa x fb j ft k : Int) (gv : List Int × Int × Int), gv = gapV rs (seg (I a) fa x) (seg (I b) fb j) (seg (I t) ft k) → mgV I J R S g a b t w s → (0 ≤ fa ∧ fa ≤ x ∧ x ≤ N a) → (0 ≤ fb ∧ fb ≤ j ∧ j ≤ N b) → (0 ≤ ft ∧ ft ≤ k ∧ k ≤ N t) → s.1.length ≤ fb + ft + 7 * fa → s.2.2.length ≤ fa → ptW J S (g + 81) a fa x → ptW J S (g + 82) b fb j → ptW J S (g + 83) t ft k → (∀ (J1 : Nat → Int → Int) (S1 : Nat → Int → Option Nat), mgV I J1 R S1 g a b t w (s.1 ++ gv.1, s.2.1 + gv.2.1, if gv.2.2 = 1 then s.2.2 ++ [(fa, x, fb, j, ft, k)] else s.2.2) → J1 (g + 3 + 2) = J (g + 3 + 2) → J1 (g + 42 + 2) = J (g + 42 + 2) → axX G f 0 0 (fun r1 T1 N1 I1 R1 z1 => (r1 = none ∧ mgV I I1 R R1 g a b t w full ∧ (full.1.length ≤ 150 ∧ isLn full.1) ∧ full.2.2.length ≤ 17 ∧ ∀ q ∈ full.2.2, gOk q) ∧ T1 = T ∧ N1 = N ∧ z1 = z) 175 [vR g, vR a, vR b, vR t, vI w, vI fa, vI fb, vI ft, vI (N a), vI x, vI j, vI k] [] T N J1 S1 z 0 0) → axX G f 0 0 (fun r1 T1 N1 I1 R1 z1 => (r1 = none ∧ mgV I I1 R R1 g a b t w full ∧ (full.1.length ≤ 150 ∧ isLn full.1) ∧ full.2.2.length ≤ 17 ∧ ∀ q ∈ full.2.2, gOk q) ∧ T1 = T ∧ N1 = N ∧ z1 = z) 162 [vR g, vR a, vR b, vR t, vI w, vI fa, vI fb, vI ft, vI (N a), vI x, vI j, vI k] [] T N J S z 0 0 := by
    intro J S s fa x fb j ft k gv hgv hV hfa hfb hft hlen hop w1 w2 w3 cont
    obtain ⟨⟨v1, v2, v3, v4⟩, ⟨v5, v6, v7⟩, v8⟩ := hV
    have hgS := mgT_fr hg v3
    have ja := v1 a oa
    have jb := v1 b ob
    have jt := v1 t ot
    have haJ := rwS_fr ha ja
    have hbJ := rwS_fr hb jb
    have htJ := rwS_fr ht jt
    have p1 := ptW_S w1 hgS.2.2.2.2.2.1.2 haJ hfa.1 hfa.2.1 hfa.2.2
    have p2 := ptW_S w2 hgS.2.2.2.2.2.2.1.2 hbJ hfb.1 hfb.2.1 hfb.2.2
    have p3 := ptW_S w3 hgS.2.2.2.2.2.2.2.1.2 htJ hft.1 hft.2.1 hft.2.2
    obtain ⟨n1, m1⟩ := seg_rw haJ hfa.1 hfa.2.2
    obtain ⟨n2, m2⟩ := seg_rw hbJ hfb.1 hfb.2.2
    obtain ⟨n3, m3⟩ := seg_rw htJ hft.1 hft.2.2
    have rp2 : ∀ r, S (g + 82) 0 = some r → r = b := fun r h => by rw [w2.1] at h; exact (Option.some.inj h).symm
    have rp3 : ∀ r, S (g + 83) 0 = some r → r = t := fun r h => by rw [w3.1] at h; exact (Option.some.inj h).symm
    have e2 : (seg (J b) fb j).length = (j - fb).toNat := seg_len _ _ _
    have e3 : (seg (J t) ft k).length = (k - ft).toNat := seg_len _ _ _
    rw [← ja, ← jb, ← jt] at hgv
    have hsp := tk_split rs s.1 (seg (J a) fa x) (seg (J b) fb j) (seg (J t) ft k)
    rw [← hgv] at hsp
    refine x_aload_n (pc := 162) hC dX3_mergeRows_162 rfl ?_
    refine x_mVx (pc := 163) hC cv_X3_93 dX3_mergeRows_163 (c_takeClean hgS v5 p1 p2 p3 n1 n2 n3 (by omega) (by omega) (fun r hr => by have := rp2 r hr; omega) (fun r hr => by have := rp3 r hr; omega)) hgS.1 rfl (by decide) rfl rfl (Nat.le_of_ble_eq_true rfl) ?_
    rintro v J1 ⟨rfl, hJ1, hJF⟩
    dsimp only [Option.toList, List.nil_append]
    rcases hsp with ⟨X, hX, he⟩ | ⟨hX, he⟩
    · rw [he] at hJ1 ⊢
      dsimp only at hJ1 ⊢
      refine x_if_ne (pc := 166) hC 175 dX3_mergeRows_166 (by decide) (by decide) (fun _ => ?_) (fun h => absurd h (by decide))
      refine cont J1 S ⟨⟨fun q h => (hJF.1 q (by omega) (by omega)).trans (v1 q h), v2, v3, (hJF.2 1 (by decide)).trans v4⟩, ⟨?_, ?_, ?_⟩, ?_⟩ (hJF.1 _ (by omega) (by omega)) (hJF.1 _ (by omega) (by omega))
      · rw [hX]; exact hJ1
      · rw [hX, hJF.2 4 (by decide), v6]; exact (Int.add_zero _).symm
      · rw [hX, hJF.2 5 (by decide), v7]; rfl
      · rw [hX]
        show pk J1 S g a b t w s.2.2
        exact pk_fr v8 (fun q h1 h2 => ⟨hJF.1 q (by omega) (by omega), rfl⟩)
    · rw [he] at hJ1 ⊢
      dsimp only at hJ1 ⊢
      refine x_if_ne (pc := 166) hC 175 dX3_mergeRows_166 (by decide) (by decide) (fun h => absurd rfl h) (fun _ => ?_)
      have z81 : ∀ q, g + 3 ≤ q → J1 q = J q := fun q h => hJF.1 q (by omega) (by omega)
      have ja1 : J1 a = J a := hJF.1 a (by omega) (by omega)
      have jb1 : J1 b = J b := hJF.1 b (by omega) (by omega)
      have jt1 : J1 t = J t := hJF.1 t (by omega) (by omega)
      have j5 : J1 g 5 = s.2.2.length := (hJF.2 5 (by decide)).trans v7
      have j1O : ∀ q, q < g ∨ g + 93 ≤ q → J1 q = I q := fun q h => (hJF.1 q (by omega) (by omega)).trans (v1 q h)
      have hrS : reS T N J1 S g rs := reS_fr hr ((hJF.2 1 (by decide)).trans v4) j1O v2 (v3.1 _ (by omega) (by omega))
      have hmt := c_meet (G := G) (z := z) (w := w) hgS hrS hn hrk hJ1 (by omega) (by omega) hw (ptW_fr w1 (z81 _ (by omega)) rfl) (ptW_fr w2 (z81 _ (by omega)) rfl) (ptW_fr w3 (z81 _ (by omega)) rfl) (rwS_fr haJ ja1) (rwS_fr hbJ jb1) (rwS_fr htJ jt1) hfa hfb hft oa ob ot
      rw [ja1, jb1, jt1, ← hX] at hmt
      have hc01 := gapV_o rs (seg (J a) fa x) (seg (J b) fb j) (seg (J t) ft k)
      rw [← hgv] at hc01
      refine x_aload_n (pc := 169) hC dX3_mergeRows_169 rfl ?_
      refine x_iload (pc := 170) hC dX3_mergeRows_170 rfl ?_
      refine x_rV (pc := 172) hC cv_X3_97 dX3_mergeRows_172 hmt hgS.1 rfl (by decide) rfl rfl (Nat.le_of_ble_eq_true rfl) ?_
      rintro v J2 S2 ⟨rfl, ⟨o1, o2⟩, oF, ⟨o3, o4, o5⟩, ⟨o6, o7, o8⟩, o9⟩
      dsimp only [Option.toList, List.nil_append]
      refine cont J2 S2 ⟨⟨fun q h => (o1 q h).trans (j1O q h), fun q h => (o2 q h).trans (v2 q h), v3.tr oF, o5.trans ((hJF.2 1 (by decide)).trans v4)⟩, ⟨o6, ?_, ?_⟩, ?_⟩ (o3.trans (z81 _ (by omega))) (o4.trans (z81 _ (by omega)))
      · rw [o7, hJF.2 4 (by decide), v6]
      · rw [o8, j5]
        rcases hc01 with h | h
        · rw [h, if_neg (by decide)]; exact Int.add_zero _
        · rw [h, if_pos rfl]; simp
      · exact pk_step (pk_fr v8 (fun q h1 h2 => ⟨z81 q (by omega), rfl⟩)) j5 (fa, x, fb, j, ft, k) o9
  have gap : ∀ (J : Nat → Int → Int) (S : Nat → Int → Option Nat) (s : List Int × Int × List Gp) (fa x fb j ft k : Int) (gv : List Int × Int × Int), gv = gapV rs (seg (I a) fa x) (seg (I b) fb j) (seg (I t) ft k) → mgV I J R S g a b t w s → (0 ≤ fa ∧ fa ≤ x ∧ x ≤ N a) → (0 ≤ fb ∧ fb ≤ j ∧ j ≤ N b) → (0 ≤ ft ∧ ft ≤ k ∧ k ≤ N t) → s.1.length ≤ fb + ft + 7 * fa → s.2.2.length ≤ fa → (∀ (J1 : Nat → Int → Int) (S1 : Nat → Int → Option Nat), mgV I J1 R S1 g a b t w (s.1 ++ gv.1, s.2.1 + gv.2.1, if gv.2.2 = 1 then s.2.2 ++ [(fa, x, fb, j, ft, k)] else s.2.2) → J1 (g + 3 + 2) = J (g + 3 + 2) → J1 (g + 42 + 2) = J (g + 42 + 2) → axX G f 0 0 (fun r1 T1 N1 I1 R1 z1 => (r1 = none ∧ mgV I I1 R R1 g a b t w full ∧ (full.1.length ≤ 150 ∧ isLn full.1) ∧ full.2.2.length ≤ 17 ∧ ∀ q ∈ full.2.2, gOk q) ∧ T1 = T ∧ N1 = N ∧ z1 = z) 175 [vR g, vR a, vR b, vR t, vI w, vI fa, vI fb, vI ft, vI (N a), vI x, vI j, vI k] [] T N J1 S1 z 0 0) → axX G f 0 0 (fun r1 T1 N1 I1 R1 z1 => (r1 = none ∧ mgV I I1 R R1 g a b t w full ∧ (full.1.length ≤ 150 ∧ isLn full.1) ∧ full.2.2.length ≤ 17 ∧ ∀ q ∈ full.2.2, gOk q) ∧ T1 = T ∧ N1 = N ∧ z1 = z) 126 [vR g, vR a, vR b, vR t, vI w, vI fa, vI fb, vI ft, vI (N a), vI x, vI j, vI k] [] T N J S z 0 0 := by
    intro J S s fa x fb j ft k gv hgv hV hfa hfb hft hlen hop cont
    obtain ⟨⟨v1, v2, v3, v4⟩, ⟨v5, v6, v7⟩, v8⟩ := hV
    have hgS := mgT_fr hg v3
    have hF1 : mgF S (ax_u S (g + 81) 0 (some a)) g := ⟨fun q _ b1 => axu_row (by omega), fun k hk => axu_a (by omega)⟩
    have hg1 := mgT_fr hgS hF1
    have hF2 : mgF S (ax_u (ax_u S (g + 81) 0 (some a)) (g + 82) 0 (some b)) g := hF1.tr ⟨fun q _ b1 => axu_row (by omega), fun k hk => axu_a (by omega)⟩
    have hg2 := mgT_fr hgS hF2
    have hF3 : mgF S (ax_u (ax_u (ax_u S (g + 81) 0 (some a)) (g + 82) 0 (some b)) (g + 83) 0 (some t)) g := hF2.tr ⟨fun q _ b1 => axu_row (by omega), fun k hk => axu_a (by omega)⟩
    refine x_aload_n (pc := 126) hC dX3_mergeRows_126 rfl ?_
    refine x_getO (pc := 127) hC gf_X3_34 dX3_mergeRows_127 hg.1 hgS.2.2.2.2.2.1.1 ?_
    refine x_aload_n (pc := 130) hC dX3_mergeRows_130 rfl ?_
    refine x_iload (pc := 131) hC dX3_mergeRows_131 rfl ?_
    refine x_iload (pc := 133) hC dX3_mergeRows_133 rfl ?_
    refine x_rV (pc := 135) hC cv_X3_89 dX3_mergeRows_135 (c_setTo hg.2.2.2.2.2.1.2 ha.1 (by omega) hfa.1 hfa.2.1 hfa.2.2) hgS.2.2.2.2.2.1.2 rfl (by decide) rfl rfl (Nat.le_of_ble_eq_true rfl) ?_
    rintro v I5 S5 ⟨rfl, hI5, hS5⟩
    change I5 = setI _ _ _ _ at hI5
    subst hI5 hS5
    dsimp only [Option.toList, List.nil_append]
    refine x_aload_n (pc := 138) hC dX3_mergeRows_138 rfl ?_
    refine x_getO (pc := 139) hC gf_X3_38 dX3_mergeRows_139 hg.1 hg1.2.2.2.2.2.2.1.1 ?_
    refine x_aload_n (pc := 142) hC dX3_mergeRows_142 rfl ?_
    refine x_iload (pc := 143) hC dX3_mergeRows_143 rfl ?_
    refine x_iload (pc := 145) hC dX3_mergeRows_145 rfl ?_
    refine x_rV (pc := 147) hC cv_X3_89 dX3_mergeRows_147 (c_setTo hg.2.2.2.2.2.2.1.2 hb.1 (by omega) hfb.1 hfb.2.1 hfb.2.2) hg1.2.2.2.2.2.2.1.2 rfl (by decide) rfl rfl (Nat.le_of_ble_eq_true rfl) ?_
    rintro v I5 S5 ⟨rfl, hI5, hS5⟩
    change I5 = setI _ _ _ _ at hI5
    subst hI5 hS5
    dsimp only [Option.toList, List.nil_append]
    refine x_aload_n (pc := 150) hC dX3_mergeRows_150 rfl ?_
    refine x_getO (pc := 151) hC gf_X3_41 dX3_mergeRows_151 hg.1 hg2.2.2.2.2.2.2.2.1.1 ?_
    refine x_aload_n (pc := 154) hC dX3_mergeRows_154 rfl ?_
    refine x_iload (pc := 155) hC dX3_mergeRows_155 rfl ?_
    refine x_iload (pc := 157) hC dX3_mergeRows_157 rfl ?_
    refine x_rV (pc := 159) hC cv_X3_89 dX3_mergeRows_159 (c_setTo hg.2.2.2.2.2.2.2.1.2 ht.1 (by omega) hft.1 hft.2.1 hft.2.2) hg2.2.2.2.2.2.2.2.1.2 rfl (by decide) rfl rfl (Nat.le_of_ble_eq_true rfl) ?_
    rintro v I5 S5 ⟨rfl, hI5, hS5⟩
    change I5 = setI _ _ _ _ at hI5
    subst hI5 hS5
    dsimp only [Option.toList, List.nil_append]
    have kO : ∀ q, q ≠ g + 81 → q ≠ g + 82 → q ≠ g + 83 → setI (setI (setI J (g + 81) fa x) (g + 82) fb j) (g + 83) ft k q = J q := fun q h1 h2 h3 => by rw [setI_o h3, setI_o h2, setI_o h1]
    have uO : ∀ q, q ≠ g + 81 → q ≠ g + 82 → q ≠ g + 83 → ax_u (ax_u (ax_u S (g + 81) 0 (some a)) (g + 82) 0 (some b)) (g + 83) 0 (some t) q = S q := fun q h1 h2 h3 => by rw [axu_row h3, axu_row h2, axu_row h1]
    refine gap2 _ _ s fa x fb j ft k gv hgv ⟨⟨fun q h => (kO q (by omega) (by omega) (by omega)).trans (v1 q h), fun q h => (uO q (by omega) (by omega) (by omega)).trans (v2 q h), v3.tr hF3, by rw [kO g (by omega) (by omega) (by omega)]; exact v4⟩, ⟨⟨by rw [kO g (by omega) (by omega) (by omega)]; exact v5.1, by rw [kO (g + 2) (by omega) (by omega) (by omega)]; exact v5.2⟩, by rw [kO g (by omega) (by omega) (by omega)]; exact v6, by rw [kO g (by omega) (by omega) (by omega)]; exact v7⟩, pk_fr v8 (fun q h1 h2 => ⟨kO q (by omega) (by omega) (by omega), uO q (by omega) (by omega) (by omega)⟩)⟩ hfa hfb hft hlen hop ⟨?_, ?_, ?_⟩ ⟨?_, ?_, ?_⟩ ⟨?_, ?_, ?_⟩ (fun J1 S1 hV1 e1 e2 => cont J1 S1 hV1 (e1.trans (kO _ (by omega) (by omega) (by omega))) (e2.trans (kO _ (by omega) (by omega) (by omega))))
    · rw [axu_a (by omega), axu_a (by omega), axu_s]
    · rw [setI_o (by omega), setI_o (by omega), setI_1]
    · rw [setI_o (by omega), setI_o (by omega), setI_2]
    · rw [axu_a (by omega), axu_s]
    · rw [setI_o (by omega), setI_1]
    · rw [setI_o (by omega), setI_2]
    · rw [axu_s]
    · rw [setI_1]
    · rw [setI_2]
  have loop : ∀ (n : Nat) (x fa fb ft : Int) (s : List Int × Int × List Gp) (J : Nat → Int → Int) (S : Nat → Int → Option Nat) (c10 c11 : ax_V), (N a - x).toNat = n → 0 ≤ fa → fa ≤ x → x ≤ N a → 0 ≤ fb → fb ≤ (mtS (I a) (I b) (N a) (N b) x.toNat).2 → 0 ≤ ft → ft ≤ (mtS (I a) (I t) (N a) (N t) x.toNat).2 → mgV I J R S g a b t w s → (∀ i, 0 ≤ i → i < N a → J (g + 3 + 2) i = (mtP (I a) (I b) (N a) (N b)) i) → (∀ i, 0 ≤ i → i < N a → J (g + 42 + 2) i = (mtP (I a) (I t) (N a) (N t)) i) → s.1.length ≤ fb + ft + 7 * fa → isLn s.1 → s.2.2.length ≤ fa → (∀ q ∈ s.2.2, gOk q) → full = (gapsL (mtP (I a) (I b) (N a) (N b)) (mtP (I a) (I t) (N a) (N t)) (N a) (N b) (N t) n x fa fb ft).foldl (mgStep rs (I a) (I b) (I t) (N a)) s → axX G f 0 0 (fun r1 T1 N1 I1 R1 z1 => (r1 = none ∧ mgV I I1 R R1 g a b t w full ∧ (full.1.length ≤ 150 ∧ isLn full.1) ∧ full.2.2.length ≤ 17 ∧ ∀ q ∈ full.2.2, gOk q) ∧ T1 = T ∧ N1 = N ∧ z1 = z) 54 [vR g, vR a, vR b, vR t, vI w, vI fa, vI fb, vI ft, vI (N a), vI x, c10, c11] [] T N J S z 0 0 := by
    intro n
    induction n with
    | zero =>
      intro x fa fb ft s J S c10 c11 hn9 a0 a1 x1 b0 bm t0 tm hV q1 q2 hlen hln hop hgo hfu
      have fb9 := mtS_f (I a) (I b) (na := N a) (nb := N b) (by omega) x.toNat
      have ft9 := mtS_f (I a) (I t) (na := N a) (nb := N t) (by omega) x.toNat
      have hxn : x = N a := by omega
      have hgS := mgT_fr hg hV.1.2.2.1
      have fin : ∀ (J : Nat → Int → Int) (S : Nat → Int → Option Nat) (c5 c6 c7 c10 c11 : ax_V), mgV I J R S g a b t w full → (full.1.length ≤ 150 ∧ isLn full.1) → full.2.2.length ≤ 17 → (∀ q ∈ full.2.2, gOk q) → axX G f 0 0 (fun r1 T1 N1 I1 R1 z1 => (r1 = none ∧ mgV I I1 R R1 g a b t w full ∧ (full.1.length ≤ 150 ∧ isLn full.1) ∧ full.2.2.length ≤ 17 ∧ ∀ q ∈ full.2.2, gOk q) ∧ T1 = T ∧ N1 = N ∧ z1 = z) 54 [vR g, vR a, vR b, vR t, vI w, c5, c6, c7, vI (N a), vI (x + 1), c10, c11] [] T N J S z 0 0 := by
        intro J S c5 c6 c7 c10 c11 hV h1 h2 h3
        refine x_iload (pc := 54) hC dX3_mergeRows_54 rfl ?_
        refine x_iload (pc := 56) hC dX3_mergeRows_56 rfl ?_
        refine x_icmp_gt (pc := 58) hC 214 dX3_mergeRows_58 (by decide) (by omega) (by omega) (fun b58 => ?_) (fun b58 => ?_)
        · refine x_vret (pc := 214) hC rfl dX3_mergeRows_214 ?_
          exact ⟨⟨rfl, hV, h1, h2, h3⟩, rfl, rfl, rfl⟩
        · omega
      refine x_iload (pc := 54) hC dX3_mergeRows_54 rfl ?_
      refine x_iload (pc := 56) hC dX3_mergeRows_56 rfl ?_
      refine x_icmp_gt (pc := 58) hC 214 dX3_mergeRows_58 (by decide) (by omega) (by omega) (fun b58 => ?_) (fun b58 => ?_)
      · omega
      · refine x_iload (pc := 61) hC dX3_mergeRows_61 rfl ?_
        refine x_iload (pc := 63) hC dX3_mergeRows_63 rfl ?_
        refine x_icmp_ge (pc := 65) hC 81 dX3_mergeRows_65 (by decide) (by omega) (by omega) (fun _ => ?_) (fun h => by omega)
        refine x_aload_n (pc := 81) hC dX3_mergeRows_81 rfl ?_
        refine x_alen (pc := 82) hC dX3_mergeRows_82 (by rw [hb.1]; decide) (by rw [hb.1]; decide) ?_
        refine x_istore (pc := 83) hC dX3_mergeRows_83 (Nat.le_of_ble_eq_true rfl) ?_
        dsimp only [List.set]
        refine x_iload (pc := 85) hC dX3_mergeRows_85 rfl ?_
        refine x_iload (pc := 87) hC dX3_mergeRows_87 rfl ?_
        refine x_icmp_ge (pc := 89) hC 105 dX3_mergeRows_89 (by decide) (by omega) (by omega) (fun _ => ?_) (fun h => by omega)
        refine x_aload_n (pc := 105) hC dX3_mergeRows_105 rfl ?_
        refine x_alen (pc := 106) hC dX3_mergeRows_106 (by rw [ht.1]; decide) (by rw [ht.1]; decide) ?_
        refine x_istore (pc := 107) hC dX3_mergeRows_107 (Nat.le_of_ble_eq_true rfl) ?_
        dsimp only [List.set]
        refine x_iload (pc := 109) hC dX3_mergeRows_109 rfl ?_
        refine x_bipush (pc := 111) hC dX3_mergeRows_111 (by decide) ?_
        refine x_icmp_eq (pc := 113) hC 208 dX3_mergeRows_113 (by decide) (by omega) (by omega) (fun b113 => ?_) (fun b113 => ?_)
        · exfalso; omega
        · refine x_iload (pc := 116) hC dX3_mergeRows_116 rfl ?_
          refine x_bipush (pc := 118) hC dX3_mergeRows_118 (by decide) ?_
          refine x_icmp_ne (pc := 120) hC 126 dX3_mergeRows_120 (by decide) (by omega) (by omega) (fun b120 => ?_) (fun b120 => ?_)
          · refine gap J S s fa x fb (N b) ft (N t) _ rfl hV (by omega) (by omega) (by omega) hlen hop (fun J1 S1 hV1 e1 e2 => ?_)
            have gl := gapV_l hsm (seg (I a) fa x) (seg (I b) fb (N b)) (seg (I t) ft (N t))
            have go_ := gapV_o rs (seg (I a) fa x) (seg (I b) fb (N b)) (seg (I t) ft (N t))
            have gn := gapV_ln hsm (seg_rw ha a0 x1).1 (seg_rw hb b0 (Int.le_refl _)).1 (seg_rw ht t0 (Int.le_refl _)).1
            simp only [seg_len] at gl
            obtain ⟨gv, hgv⟩ : ∃ v, v = gapV rs (seg (I a) fa x) (seg (I b) fb (N b)) (seg (I t) ft (N t)) := ⟨_, rfl⟩
            rw [← hgv] at hV1 gl go_ gn
            have hs2 : (mgStep rs (I a) (I b) (I t) (N a)) s (fa, N a, fb, N b, ft, N t) = (s.1 ++ gv.1, s.2.1 + gv.2.1, if gv.2.2 = 1 then s.2.2 ++ [(fa, x, fb, N b, ft, N t)] else s.2.2) := by
              have hg : gapG rs (I a) (I b) (I t) (fa, N a, fb, N b, ft, N t) = gv := by rw [hgv, hxn]; rfl
              simp only [mgStep]
              rw [hg, if_neg (Int.lt_irrefl _), List.append_nil, hxn]
            simp only [gapsL, List.foldl_cons, List.foldl_nil] at hfu
            rw [hs2] at hfu
            rw [← hfu] at hV1
            have fin2 : (full.1.length ≤ 150 ∧ isLn full.1) ∧ full.2.2.length ≤ 17 ∧ ∀ q ∈ full.2.2, gOk q := by
              rw [hfu]
              refine ⟨⟨by simp only [List.length_append]; omega, hln.app gn⟩, ?_, ?_⟩
              · dsimp only
                split <;> (try simp only [List.length_append, List.length_cons, List.length_nil]) <;> omega
              · dsimp only
                intro g hg
                split at hg
                · rcases List.mem_append.mp hg with hg | hg
                  · exact hgo g hg
                  · simp at hg
                    subst hg
                    exact ⟨⟨by dsimp only; omega, by dsimp only; omega, by dsimp only; omega⟩, ⟨by dsimp only; omega, by dsimp only; omega, by dsimp only; omega⟩, by dsimp only; omega, by dsimp only; omega, by dsimp only; omega⟩
                · exact hgo g hg
            refine x_iload (pc := 175) hC dX3_mergeRows_175 rfl ?_
            refine x_iload (pc := 177) hC dX3_mergeRows_177 rfl ?_
            refine x_icmp_ge (pc := 179) hC 190 dX3_mergeRows_179 (by decide) (by omega) (by omega) (fun _ => ?_) (fun h => by omega)
            refine x_iload (pc := 190) hC dX3_mergeRows_190 rfl ?_
            refine x_iconst (pc := 192) hC dX3_mergeRows_192 ?_
            refine x_iadd (pc := 193) hC dX3_mergeRows_193 ?_
            refine x_istore (pc := 194) hC dX3_mergeRows_194 (Nat.le_of_ble_eq_true rfl) ?_
            dsimp only [List.set]
            refine x_iload (pc := 196) hC dX3_mergeRows_196 rfl ?_
            refine x_iconst (pc := 198) hC dX3_mergeRows_198 ?_
            refine x_iadd (pc := 199) hC dX3_mergeRows_199 ?_
            refine x_istore (pc := 200) hC dX3_mergeRows_200 (Nat.le_of_ble_eq_true rfl) ?_
            dsimp only [List.set]
            refine x_iload (pc := 202) hC dX3_mergeRows_202 rfl ?_
            refine x_iconst (pc := 204) hC dX3_mergeRows_204 ?_
            refine x_iadd (pc := 205) hC dX3_mergeRows_205 ?_
            refine x_istore (pc := 206) hC dX3_mergeRows_206 (Nat.le_of_ble_eq_true rfl) ?_
            dsimp only [List.set]
            refine x_iinc (pc := 208) hC dX3_mergeRows_208 rfl ?_
            dsimp only [List.set]
            refine x_goto (pc := 211) hC 54 dX3_mergeRows_211 (by decide) ?_
            exact fin J1 S1 _ _ _ _ _ hV1 fin2.1 fin2.2.1 fin2.2.2
          · refine x_goto (pc := 123) hC 208 dX3_mergeRows_123 (by decide) ?_
            exfalso; omega
    | succ n ih =>
      intro x fa fb ft s J S c10 c11 hn9 a0 a1 x1 b0 bm t0 tm hV q1 q2 hlen hln hop hgo hfu
      have fb9 := mtS_f (I a) (I b) (na := N a) (nb := N b) (by omega) x.toNat
      have ft9 := mtS_f (I a) (I t) (na := N a) (nb := N t) (by omega) x.toNat
      have sb := mtS_s (a := I a) (b := I b) (na := N a) (nb := N b) (i := x) (by omega)
      have st := mtS_s (a := I a) (b := I t) (na := N a) (nb := N t) (i := x) (by omega)
      have rb := mtP_r (I a) (I b) (na := N a) (nb := N b) x (by omega)
      have rt := mtP_r (I a) (I t) (na := N a) (nb := N t) x (by omega)
      have q1x := q1 x (by omega) (by omega)
      have q2x := q2 x (by omega) (by omega)
      have hgS := mgT_fr hg hV.1.2.2.1
      have none9 : ((mtP (I a) (I b) (N a) (N b)) x = -9 ∨ (mtP (I a) (I t) (N a) (N t)) x = -9) → ∀ (c10 c11 : ax_V), axX G f 0 0 (fun r1 T1 N1 I1 R1 z1 => (r1 = none ∧ mgV I I1 R R1 g a b t w full ∧ (full.1.length ≤ 150 ∧ isLn full.1) ∧ full.2.2.length ≤ 17 ∧ ∀ q ∈ full.2.2, gOk q) ∧ T1 = T ∧ N1 = N ∧ z1 = z) 208 [vR g, vR a, vR b, vR t, vI w, vI fa, vI fb, vI ft, vI (N a), vI x, c10, c11] [] T N J S z 0 0 := by
        intro hor c10 c11
        refine x_iinc (pc := 208) hC dX3_mergeRows_208 rfl ?_
        dsimp only [List.set]
        refine x_goto (pc := 211) hC 54 dX3_mergeRows_211 (by decide) ?_
        have sbl : (mtS (I a) (I b) (N a) (N b) x.toNat).2 ≤ (mtS (I a) (I b) (N a) (N b) (x + 1).toNat).2 := by
          rw [sb]
          split
          · exact Int.le_refl _
          · dsimp only; omega
        have stl : (mtS (I a) (I t) (N a) (N t) x.toNat).2 ≤ (mtS (I a) (I t) (N a) (N t) (x + 1).toNat).2 := by
          rw [st]
          split
          · exact Int.le_refl _
          · dsimp only; omega
        refine ih (x + 1) fa fb ft s J S _ _ (by omega) a0 (by omega) (by omega) b0 (by omega) t0 (by omega) hV q1 q2 hlen hln hop hgo ?_
        rw [hfu]
        simp only [gapsL]
        rw [if_pos hor]
      refine x_iload (pc := 54) hC dX3_mergeRows_54 rfl ?_
      refine x_iload (pc := 56) hC dX3_mergeRows_56 rfl ?_
      refine x_icmp_gt (pc := 58) hC 214 dX3_mergeRows_58 (by decide) (by omega) (by omega) (fun b58 => ?_) (fun b58 => ?_)
      · omega
      · refine x_iload (pc := 61) hC dX3_mergeRows_61 rfl ?_
        refine x_iload (pc := 63) hC dX3_mergeRows_63 rfl ?_
        refine x_icmp_ge (pc := 65) hC 81 dX3_mergeRows_65 (by decide) (by omega) (by omega) (fun h => by omega) (fun _ => ?_)
        refine x_aload_n (pc := 68) hC dX3_mergeRows_68 rfl ?_
        refine x_getO (pc := 69) hC gf_X3_24 dX3_mergeRows_69 hg.1 hgS.2.2.2.1.1 ?_
        refine x_getO (pc := 72) hC gf_X3_86 dX3_mergeRows_72 hgS.2.2.2.1.2.1 hgS.2.2.2.1.2.2.2.1.1 ?_
        refine x_iload (pc := 75) hC dX3_mergeRows_75 rfl ?_
        refine x_iald (pc := 77) hC dX3_mergeRows_77 hgS.2.2.2.1.2.2.2.1.2.1 (by omega) (by rw [hgS.2.2.2.1.2.2.2.1.2.2]; omega) ?_
        refine x_goto (pc := 78) hC 83 dX3_mergeRows_78 (by decide) ?_
        rw [q1x]
        refine x_istore (pc := 83) hC dX3_mergeRows_83 (Nat.le_of_ble_eq_true rfl) ?_
        dsimp only [List.set]
        refine x_iload (pc := 85) hC dX3_mergeRows_85 rfl ?_
        refine x_iload (pc := 87) hC dX3_mergeRows_87 rfl ?_
        refine x_icmp_ge (pc := 89) hC 105 dX3_mergeRows_89 (by decide) (by omega) (by omega) (fun h => by omega) (fun _ => ?_)
        refine x_aload_n (pc := 92) hC dX3_mergeRows_92 rfl ?_
        refine x_getO (pc := 93) hC gf_X3_28 dX3_mergeRows_93 hg.1 hgS.2.2.2.2.1.1 ?_
        refine x_getO (pc := 96) hC gf_X3_86 dX3_mergeRows_96 hgS.2.2.2.2.1.2.1 hgS.2.2.2.2.1.2.2.2.1.1 ?_
        refine x_iload (pc := 99) hC dX3_mergeRows_99 rfl ?_
        refine x_iald (pc := 101) hC dX3_mergeRows_101 hgS.2.2.2.2.1.2.2.2.1.2.1 (by omega) (by rw [hgS.2.2.2.2.1.2.2.2.1.2.2]; omega) ?_
        refine x_goto (pc := 102) hC 107 dX3_mergeRows_102 (by decide) ?_
        rw [q2x]
        refine x_istore (pc := 107) hC dX3_mergeRows_107 (Nat.le_of_ble_eq_true rfl) ?_
        dsimp only [List.set]
        refine x_iload (pc := 109) hC dX3_mergeRows_109 rfl ?_
        refine x_bipush (pc := 111) hC dX3_mergeRows_111 (by decide) ?_
        refine x_icmp_eq (pc := 113) hC 208 dX3_mergeRows_113 (by decide) (by omega) (by omega) (fun b113 => ?_) (fun b113 => ?_)
        · exact none9 (by omega) _ _
        · refine x_iload (pc := 116) hC dX3_mergeRows_116 rfl ?_
          refine x_bipush (pc := 118) hC dX3_mergeRows_118 (by decide) ?_
          refine x_icmp_ne (pc := 120) hC 126 dX3_mergeRows_120 (by decide) (by omega) (by omega) (fun b120 => ?_) (fun b120 => ?_)
          · have n1 : ¬ (mtP (I a) (I b) (N a) (N b)) x = -9 := by assumption
            have n2 : ¬ (mtP (I a) (I t) (N a) (N t)) x = -9 := by first | assumption | omega
            rcases rb with rb | ⟨rb1, rb2, -⟩
            · exact absurd rb n1
            rcases rt with rt | ⟨rt1, rt2, -⟩
            · exact absurd rt n2
            refine gap J S s fa x fb ((mtP (I a) (I b) (N a) (N b)) x) ft ((mtP (I a) (I t) (N a) (N t)) x) _ rfl hV (by omega) (by omega) (by omega) hlen hop (fun J1 S1 hV1 e1 e2 => ?_)
            have gl := gapV_l hsm (seg (I a) fa x) (seg (I b) fb ((mtP (I a) (I b) (N a) (N b)) x)) (seg (I t) ft ((mtP (I a) (I t) (N a) (N t)) x))
            have go_ := gapV_o rs (seg (I a) fa x) (seg (I b) fb ((mtP (I a) (I b) (N a) (N b)) x)) (seg (I t) ft ((mtP (I a) (I t) (N a) (N t)) x))
            have gn := gapV_ln hsm (seg_rw ha a0 x1).1 (seg_rw (i := fb) (e := (mtP (I a) (I b) (N a) (N b)) x) hb b0 (by omega)).1 (seg_rw (i := ft) (e := (mtP (I a) (I t) (N a) (N t)) x) ht t0 (by omega)).1
            simp only [seg_len] at gl
            obtain ⟨gv, hgv⟩ : ∃ v, v = gapV rs (seg (I a) fa x) (seg (I b) fb ((mtP (I a) (I b) (N a) (N b)) x)) (seg (I t) ft ((mtP (I a) (I t) (N a) (N t)) x)) := ⟨_, rfl⟩
            rw [← hgv] at hV1 gl go_ gn
            have hs2 : (mgStep rs (I a) (I b) (I t) (N a)) s (fa, x, fb, (mtP (I a) (I b) (N a) (N b)) x, ft, (mtP (I a) (I t) (N a) (N t)) x) = (s.1 ++ gv.1 ++ [I a x], s.2.1 + gv.2.1, if gv.2.2 = 1 then s.2.2 ++ [(fa, x, fb, (mtP (I a) (I b) (N a) (N b)) x, ft, (mtP (I a) (I t) (N a) (N t)) x)] else s.2.2) := by
              have hg : gapG rs (I a) (I b) (I t) (fa, x, fb, (mtP (I a) (I b) (N a) (N b)) x, ft, (mtP (I a) (I t) (N a) (N t)) x) = gv := by rw [hgv]; rfl
              simp only [mgStep]
              rw [hg, if_pos (by omega)]
            simp only [gapsL] at hfu
            rw [if_neg (by omega), List.foldl_cons, hs2] at hfu
            have hg1 := mgT_fr hg hV1.1.2.2.1
            have hax : J1 a = I a := hV1.1.1 a oa
            refine x_iload (pc := 175) hC dX3_mergeRows_175 rfl ?_
            refine x_iload (pc := 177) hC dX3_mergeRows_177 rfl ?_
            refine x_icmp_ge (pc := 179) hC 190 dX3_mergeRows_179 (by decide) (by omega) (by omega) (fun h => by omega) (fun _ => ?_)
            refine x_aload_n (pc := 182) hC dX3_mergeRows_182 rfl ?_
            refine x_aload_n (pc := 183) hC dX3_mergeRows_183 rfl ?_
            refine x_iload (pc := 184) hC dX3_mergeRows_184 rfl ?_
            refine x_iald (pc := 186) hC dX3_mergeRows_186 ha.1 (by omega) (by omega) ?_
            rw [hax]
            refine x_mVx (pc := 187) hC cv_X3_101 dX3_mergeRows_187 (c_addLine hg1 hV1.2.1.1 (by simp only [List.length_append]; omega)) hg.1 rfl (by decide) rfl rfl (Nat.le_of_ble_eq_true rfl) ?_
            rintro v J2 ⟨rfl, hJ2, hJF2⟩
            dsimp only [Option.toList, List.nil_append]
            refine x_iload (pc := 190) hC dX3_mergeRows_190 rfl ?_
            refine x_iconst (pc := 192) hC dX3_mergeRows_192 ?_
            refine x_iadd (pc := 193) hC dX3_mergeRows_193 ?_
            refine x_istore (pc := 194) hC dX3_mergeRows_194 (Nat.le_of_ble_eq_true rfl) ?_
            dsimp only [List.set]
            refine x_iload (pc := 196) hC dX3_mergeRows_196 rfl ?_
            refine x_iconst (pc := 198) hC dX3_mergeRows_198 ?_
            refine x_iadd (pc := 199) hC dX3_mergeRows_199 ?_
            refine x_istore (pc := 200) hC dX3_mergeRows_200 (Nat.le_of_ble_eq_true rfl) ?_
            dsimp only [List.set]
            refine x_iload (pc := 202) hC dX3_mergeRows_202 rfl ?_
            refine x_iconst (pc := 204) hC dX3_mergeRows_204 ?_
            refine x_iadd (pc := 205) hC dX3_mergeRows_205 ?_
            refine x_istore (pc := 206) hC dX3_mergeRows_206 (Nat.le_of_ble_eq_true rfl) ?_
            dsimp only [List.set]
            refine x_iinc (pc := 208) hC dX3_mergeRows_208 rfl ?_
            dsimp only [List.set]
            refine x_goto (pc := 211) hC 54 dX3_mergeRows_211 (by decide) ?_
            refine ih (x + 1) (x + 1) _ _ (s.1 ++ gv.1 ++ [I a x], s.2.1 + gv.2.1, if gv.2.2 = 1 then s.2.2 ++ [(fa, x, fb, (mtP (I a) (I b) (N a) (N b)) x, ft, (mtP (I a) (I t) (N a) (N t)) x)] else s.2.2) J2 S1 _ _ (by omega) (by omega) (by omega) (by omega) (by omega) (by rw [sb, if_neg n1]; exact Int.le_refl _) (by omega) (by rw [st, if_neg n2]; exact Int.le_refl _) ⟨⟨fun q h => (hJF2.1 q (by omega) (by omega)).trans (hV1.1.1 q h), hV1.1.2.1, hV1.1.2.2.1, (hJF2.2 1 (by decide)).trans hV1.1.2.2.2⟩, ⟨hJ2, (hJF2.2 4 (by decide)).trans hV1.2.1.2.1, (hJF2.2 5 (by decide)).trans hV1.2.1.2.2⟩, pk_fr hV1.2.2 (fun q h1 h2 => ⟨hJF2.1 q (by omega) (by omega), rfl⟩)⟩ (fun i h1 h2 => by rw [hJF2.1 _ (by omega) (by omega), e1]; exact q1 i h1 h2) (fun i h1 h2 => by rw [hJF2.1 _ (by omega) (by omega), e2]; exact q2 i h1 h2) ?_ ?_ ?_ ?_ hfu
            · simp only [List.length_append, List.length_cons, List.length_nil]
              omega
            · exact (hln.app gn).app (fun w hw => by simp at hw; rw [hw]; exact ha.2.2 x (by omega) (by omega))
            · dsimp only
              split <;> (try simp only [List.length_append, List.length_cons, List.length_nil]) <;> omega
            · dsimp only
              intro g hg
              split at hg
              · rcases List.mem_append.mp hg with hg | hg
                · exact hgo g hg
                · simp at hg
                  subst hg
                  exact ⟨⟨by dsimp only; omega, by dsimp only; omega, by dsimp only; omega⟩, ⟨by dsimp only; omega, by dsimp only; omega, by dsimp only; omega⟩, by dsimp only; omega, by dsimp only; omega, by dsimp only; omega⟩
              · exact hgo g hg
          · refine x_goto (pc := 123) hC 208 dX3_mergeRows_123 (by decide) ?_
            exact none9 (by omega) _ _
  refine x_aload_n (pc := 0) hC dX3_mergeRows_0 rfl ?_
  refine x_getO (pc := 1) hC gf_X3_24 dX3_mergeRows_1 hg.1 hg.2.2.2.1.1 ?_
  refine x_aload_n (pc := 4) hC dX3_mergeRows_4 rfl ?_
  refine x_aload_n (pc := 5) hC dX3_mergeRows_5 rfl ?_
  refine x_mVx (pc := 6) hC cv_X3_66 dX3_mergeRows_6 (c_match (m := g + 3) hg.2.2.2.1.2 ha hb (by omega) (by omega)) hg.2.2.2.1.2.1 rfl (by decide) rfl rfl (Nat.le_of_ble_eq_true rfl) ?_
  rintro v J1 ⟨rfl, h1, h2⟩
  dsimp only [Option.toList, List.nil_append]
  refine x_aload_n (pc := 9) hC dX3_mergeRows_9 rfl ?_
  refine x_getO (pc := 10) hC gf_X3_28 dX3_mergeRows_10 hg.1 hg.2.2.2.2.1.1 ?_
  refine x_aload_n (pc := 13) hC dX3_mergeRows_13 rfl ?_
  refine x_aload_n (pc := 14) hC dX3_mergeRows_14 rfl ?_
  refine x_mVx (pc := 15) hC cv_X3_66 dX3_mergeRows_15 (c_match (m := g + 42) hg.2.2.2.2.1.2 (rwS_fr ha (h1 a (by omega) (by omega))) (rwS_fr ht (h1 t (by omega) (by omega))) (by omega) (by omega)) hg.2.2.2.2.1.2.1 rfl (by decide) rfl rfl (Nat.le_of_ble_eq_true rfl) ?_
  rintro v J2 ⟨rfl, h3, h4⟩
  dsimp only [Option.toList, List.nil_append]
  rw [h1 a (by omega) (by omega), h1 t (by omega) (by omega)] at h4
  refine x_aload_n (pc := 18) hC dX3_mergeRows_18 rfl ?_
  refine x_iconst (pc := 19) hC dX3_mergeRows_19 ?_
  refine x_putI (pc := 20) hC pf_X3_70 dX3_mergeRows_20 hg.1 (by decide) ?_
  refine x_aload_n (pc := 23) hC dX3_mergeRows_23 rfl ?_
  refine x_iconst (pc := 24) hC dX3_mergeRows_24 ?_
  refine x_putI (pc := 25) hC pf_X3_74 dX3_mergeRows_25 hg.1 (by decide) ?_
  refine x_aload_n (pc := 28) hC dX3_mergeRows_28 rfl ?_
  refine x_iconst (pc := 29) hC dX3_mergeRows_29 ?_
  refine x_putI (pc := 30) hC pf_X3_77 dX3_mergeRows_30 hg.1 (by decide) ?_
  refine x_iconst (pc := 33) hC dX3_mergeRows_33 ?_
  refine x_istore (pc := 34) hC dX3_mergeRows_34 (Nat.le_of_ble_eq_true rfl) ?_
  dsimp only [List.set]
  refine x_iconst (pc := 36) hC dX3_mergeRows_36 ?_
  refine x_istore (pc := 37) hC dX3_mergeRows_37 (Nat.le_of_ble_eq_true rfl) ?_
  dsimp only [List.set]
  refine x_iconst (pc := 39) hC dX3_mergeRows_39 ?_
  refine x_istore (pc := 40) hC dX3_mergeRows_40 (Nat.le_of_ble_eq_true rfl) ?_
  dsimp only [List.set]
  refine x_aload_n (pc := 42) hC dX3_mergeRows_42 rfl ?_
  refine x_alen (pc := 43) hC dX3_mergeRows_43 (by rw [ha.1]; decide) (by rw [ha.1]; decide) ?_
  refine x_bipush (pc := 44) hC dX3_mergeRows_44 (by decide) ?_
  refine x_mmin (pc := 46) hC cs_X3_80 dX3_mergeRows_46 (by omega) (by omega) (by decide) rfl (Nat.le_of_ble_eq_true rfl) ?_
  rw [mi1]
  refine x_istore (pc := 49) hC dX3_mergeRows_49 (Nat.le_of_ble_eq_true rfl) ?_
  dsimp only [List.set]
  refine x_iconst (pc := 51) hC dX3_mergeRows_51 ?_
  refine x_istore (pc := 52) hC dX3_mergeRows_52 (Nat.le_of_ble_eq_true rfl) ?_
  dsimp only [List.set]
  have kO : ∀ q, q ≠ g → ax_u (ax_u (ax_u J2 g 3 0) g 4 0) g 5 0 q = J2 q := fun q h => by rw [axu_row h, axu_row h, axu_row h]
  refine loop _ 0 0 0 0 ([], 0, []) _ R _ _ rfl (by omega) (by omega) la.1 (by omega) (by rw [mtS_0]; exact Int.le_refl _) (by omega) (by rw [mtS_0]; exact Int.le_refl _) ⟨⟨fun q h => by rw [kO q (by omega), h3 q (by omega) (by omega), h1 q (by omega) (by omega)], fun q _ => rfl, mgF.rf, ?_⟩, ⟨⟨?_, seg_nil (by simp)⟩, ?_, ?_⟩, fun q h0 hq => by simp at hq⟩ (fun i a1 a2 => ?_) (fun i a1 a2 => ?_) (by simp) isLn.nil (by simp) (fun g hg => by simp at hg) (by rw [hfull, Int.sub_zero]; rfl)
  · rw [axu_j (by decide), axu_j (by decide), axu_j (by decide), h3 g (by omega) (by omega), h1 g (by omega) (by omega)]
  · rw [axu_j (by decide), axu_j (by decide), axu_s]; rfl
  · rw [axu_j (by decide), axu_s]
  · rw [axu_s]; rfl
  · rw [kO _ (by omega), h3 _ (by omega) (by omega)]; exact h2 i a1 a2
  · rw [kO _ (by omega)]; exact h4 i a1 a2

