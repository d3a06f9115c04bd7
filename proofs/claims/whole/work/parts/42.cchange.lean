/-! THE CLASS: changes -/
/-- a matching holds these pieces -/
def mcS (T : Nat → Nat) (N : Nat → Int) (I : Nat → Int → Int) (R : Nat → Int → Option Nat) (m : Nat) (L : List (List Int × List Int)) : Prop := I m 4 = L.length ∧ L.length ≤ 17 ∧ ∀ (k : Nat) (q : List Int × List Int), L[k]? = some q → (ptS T N I R (m + 5 + 2 * k) q.1 ∧ isLn q.1) ∧ ptS T N I R (m + 6 + 2 * k) q.2 ∧ isLn q.2
/-- .. as they were set -/
def mcR (I : Nat → Int → Int) (R : Nat → Int → Option Nat) (m a b : Nat) (l : List (Int × Int × Int × Int)) : Prop := ∀ (k : Nat) (q : Int × Int × Int × Int), l[k]? = some q → (R (m + 5 + 2 * k) 0 = some a ∧ I (m + 5 + 2 * k) 1 = q.1 ∧ I (m + 5 + 2 * k) 2 = q.2.1 - q.1) ∧ R (m + 6 + 2 * k) 0 = some b ∧ I (m + 6 + 2 * k) 1 = q.2.2.1 ∧ I (m + 6 + 2 * k) 2 = q.2.2.2 - q.2.2.1
def mcF (I J : Nat → Int → Int) (R S : Nat → Int → Option Nat) (m : Nat) : Prop := (∀ q, (q < m ∨ m + 39 ≤ q) → J q = I q) ∧ ∀ q, (q < m + 5 ∨ m + 39 ≤ q) → S q = R q
/-- a row set apart from a matching -/
def apt (m a : Nat) : Prop := a < m ∨ m + 39 ≤ a
def setI (J : Nat → Int → Int) (p : Nat) (i e : Int) : Nat → Int → Int := ax_u (ax_u J p 1 i) p 2 (e - i)
theorem setI_o {J : Nat → Int → Int} {p q : Nat} {i e : Int} (h : q ≠ p) : setI J p i e q = J q := by unfold setI; rw [axu_row h, axu_row h]
theorem setI_1 {J : Nat → Int → Int} {p : Nat} {i e : Int} : setI J p i e p 1 = i := by unfold setI; rw [axu_j (by decide), axu_s]
theorem setI_2 {J : Nat → Int → Int} {p : Nat} {i e : Int} : setI J p i e p 2 = e - i := axu_s
theorem mtT_fr {T : Nat → Nat} {N : Nat → Int} {R S : Nat → Int → Option Nat} {m : Nat} (h : mtT T N R m) (hS : ∀ q, m ≤ q → q < m + 5 → S q = R q) : mtT T N S m := by
  unfold mtT at *
  rw [hS m (by omega) (by omega), hS (m + 3) (by omega) (by omega), hS (m + 4) (by omega) (by omega)]
  exact h
theorem mcR_add {J : Nat → Int → Int} {S : Nat → Int → Option Nat} {m a b : Nat} {D : List (Int × Int × Int × Int)} {i ie j je : Int} (h : mcR J S m a b D) (v : Int) (hDm : D.length < 17) : mcR (ax_u (setI (setI J (m + 5 + 2 * D.length) i ie) (m + 6 + 2 * D.length) j je) m 4 v) (ax_u (ax_u S (m + 5 + 2 * D.length) 0 (some a)) (m + 6 + 2 * D.length) 0 (some b)) m a b (D ++ [(i, ie, j, je)]) := by
  have hI : ∀ (q : Nat), q ≠ m + 5 + 2 * D.length → q ≠ m + 6 + 2 * D.length → q ≠ m → (ax_u (setI (setI J (m + 5 + 2 * D.length) i ie) (m + 6 + 2 * D.length) j je) m 4 v) q = J q := fun q h1 h2 h3 => by rw [axu_row h3, setI_o h2, setI_o h1]
  have hS : ∀ (q : Nat), q ≠ m + 5 + 2 * D.length → q ≠ m + 6 + 2 * D.length → (ax_u (ax_u S (m + 5 + 2 * D.length) 0 (some a)) (m + 6 + 2 * D.length) 0 (some b)) q = S q := fun q h1 h2 => by rw [axu_row h2, axu_row h1]
  intro k q hq
  rcases Nat.lt_or_ge k D.length with hk | hk
  · rw [List.getElem?_append_left hk] at hq
    rw [hI (m + 5 + 2 * k) (by omega) (by omega) (by omega), hI (m + 6 + 2 * k) (by omega) (by omega) (by omega), hS (m + 5 + 2 * k) (by omega) (by omega), hS (m + 6 + 2 * k) (by omega) (by omega)]
    exact h k q hq
  · have hk2 : k = D.length := by
      rcases Nat.lt_or_ge D.length k with h9 | h9
      · rw [List.getElem?_eq_none (by simp; omega)] at hq; simp at hq
      · omega
    subst hk2
    rw [List.getElem?_append_right (Nat.le_refl _)] at hq
    simp at hq
    subst hq
    refine ⟨⟨?_, ?_, ?_⟩, ?_, ?_, ?_⟩
    · rw [axu_a (by omega), axu_s]
    · rw [axu_a (by omega), setI_o (by omega), setI_1]
    · rw [axu_a (by omega), setI_o (by omega), setI_2]
    · rw [axu_s]
    · rw [axu_a (by omega), setI_1]
    · rw [axu_a (by omega), setI_2]
theorem mcS_of {T : Nat → Nat} {N : Nat → Int} {I J : Nat → Int → Int} {R S : Nat → Int → Option Nat} {m a b : Nat} {l : List (Int × Int × Int × Int)} (hm : mtT T N R m) (ha : rwS T N I a) (hb : rwS T N I b) (hJa : J a = I a) (hJb : J b = I b) (h4 : J m 4 = l.length) (hl : l.length ≤ 17) (h : mcR J S m a b l) (ho : ∀ q ∈ l, pOk (N a) (N b) q) : mcS T N J S m (chgL (I a) (I b) l) := by
  refine ⟨by rw [h4]; simp [chgL], by simpa [chgL] using hl, fun k q hq => ?_⟩
  simp only [chgL, List.getElem?_map] at hq
  cases hg : l[k]? with
  | none => rw [hg] at hq; simp at hq
  | some v =>
    rw [hg] at hq
    simp at hq
    subst hq
    obtain ⟨p1, p2, p3, p4, p5, p6⟩ := ho v (List.mem_of_getElem? hg)
    obtain ⟨⟨e1, e2, e3⟩, e4, e5, e6⟩ := h k v hg
    have hk : k < 17 := by
      rcases Nat.lt_or_ge k l.length with h9 | h9
      · omega
      · rw [List.getElem?_eq_none h9] at hg; simp at hg
    obtain ⟨-, t1, -, t2⟩ := hm.2.2.2.2.2 k hk
    have la := ha.2.1
    have lb := hb.2.1
    refine ⟨⟨⟨t1, a, e1, ha.1, by omega, by omega, by omega, by omega, ?_⟩, fun v hv => ?_⟩, ⟨t2, b, e4, hb.1, by omega, by omega, by omega, by omega, ?_⟩, fun v hv => ?_⟩
    · rw [e2, e3, hJa, show v.1 + (v.2.1 - v.1) = v.2.1 by omega]
    · obtain ⟨j, j1, j2, rfl⟩ := seg_mem.mp hv
      exact ha.2.2 j (by omega) (by omega)
    · rw [e5, e6, hJb, show v.2.2.1 + (v.2.2.2 - v.2.2.1) = v.2.2.2 by omega]
    · obtain ⟨j, j1, j2, rfl⟩ := seg_mem.mp hv
      exact hb.2.2 j (by omega) (by omega)
def mcW (R : Nat → Int → Option Nat) (m a b n : Nat) : Prop := ∀ k : Nat, k < n → R (m + 5 + 2 * k) 0 = some a ∧ R (m + 6 + 2 * k) 0 = some b
theorem mcW_of {J : Nat → Int → Int} {S : Nat → Int → Option Nat} {m a b : Nat} {l : List (Int × Int × Int × Int)} (h : mcR J S m a b l) : mcW S m a b l.length := fun k hk => by
  have := h k _ (List.getElem?_eq_getElem hk)
  exact ⟨this.1.1, this.2.1⟩
theorem mcS_fr {T : Nat → Nat} {N : Nat → Int} {I J : Nat → Int → Int} {R S : Nat → Int → Option Nat} {m a b n : Nat} {L : List (List Int × List Int)} (h : mcS T N I R m L) (hw : mcW R m a b n) (hn : L.length = n) (hf : ∀ q, m ≤ q → q < m + 39 → J q = I q ∧ S q = R q) (ha : J a = I a) (hb : J b = I b) : mcS T N J S m L := by
  obtain ⟨h1, h2, h3⟩ := h
  refine ⟨by rw [(hf m (by omega) (by omega)).1]; exact h1, h2, fun k q hq => ?_⟩
  have hk : k < L.length := (List.getElem?_eq_some_iff.mp hq).1
  obtain ⟨⟨p1, l1⟩, p2, l2⟩ := h3 k q hq
  obtain ⟨w1, w2⟩ := hw k (by omega)
  have f1 := hf (m + 5 + 2 * k) (by omega) (by omega)
  have f2 := hf (m + 6 + 2 * k) (by omega) (by omega)
  obtain ⟨t1, r1, a1, a2, a3, a4, a5, a6, a7⟩ := p1
  obtain ⟨t2, r2, b1, b2, b3, b4, b5, b6, b7⟩ := p2
  rw [w1] at a1
  rw [w2] at b1
  cases a1
  cases b1
  refine ⟨⟨⟨t1, a, by rw [f1.2]; exact w1, a2, a3, ?_, ?_, ?_, ?_⟩, l1⟩, ⟨t2, b, by rw [f2.2]; exact w2, b2, b3, ?_, ?_, ?_, ?_⟩, l2⟩
  · rw [f1.1]; exact a4
  · rw [f1.1]; exact a5
  · rw [f1.1]; exact a6
  · rw [f1.1, ha]; exact a7
  · rw [f2.1]; exact b4
  · rw [f2.1]; exact b5
  · rw [f2.1]; exact b6
  · rw [f2.1, hb]; exact b7

set_option maxHeartbeats 4000000 in
set_option maxRecDepth 100000 in
theorem c_readChange {G : ax_G} {T : Nat → Nat} {N : Nat → Int} {I : Nat → Int → Int} {R : Nat → Int → Option Nat} {z : Nat} {A w : Int → Nat} {mm : Int} {p : Int → Int} (h : cmS T N I R A w mm p) {m : Nat} {c : Int} (hm : mtT T N R m) (hc : 0 ≤ c ∧ c < mm) (hap : ∀ c, 0 ≤ c → c < mm → apt m (w c)) : axR G YX2_readChange 3 [vR m, vR (A c)] T N I R z (fun r1 I1 R1 => r1 = none ∧ mcF I I1 R R1 m ∧ mcS T N I1 R1 m (chgL (I (pwA w p c)) (I (w c)) (pcsOf (I (pwA w p c)) (I (w c)) (N (pwA w p c)) (N (w c)))) ∧ mcW R1 m (pwA w p c) (w c) (pcsOf (I (pwA w p c)) (I (w c)) (N (pwA w p c)) (N (w c))).length) := by

  refine ax_enter (by decide) (Nat.le_of_ble_eq_true rfl) (ax_cat rfl) (fun f hC => ?_)
  show axX G f 0 0 _ 0 [vR m, vR (A c), vU, vU, vU, vU, vU, vU, vU] [] T N I R z 0 0
  obtain ⟨h1, h2, h3, h4, h5⟩ := h.2 c hc.1 hc.2
  have hab : rwS T N I (pwA w p c) ∧ apt m (pwA w p c) := by
    unfold pwA
    by_cases h0 : c = 0
    · rw [if_pos h0]; exact ⟨h5, hap c hc.1 hc.2⟩
    · rw [if_neg h0]
      have hp := h.1.2 c (by omega) hc.2
      exact ⟨(h.2 (p c) hp.1 (by omega)).2.2.2.2, hap (p c) hp.1 (by omega)⟩
  have hbb : rwS T N I (w c) ∧ apt m (w c) := ⟨h5, hap c hc.1 hc.2⟩
  have hpr := c_parentRow (G := G) (z := z) h hc
  obtain ⟨a, hae⟩ : ∃ a, a = pwA w p c := ⟨_, rfl⟩
  obtain ⟨b, hbe⟩ : ∃ b, b = w c := ⟨_, rfl⟩
  rw [← hae] at hab hpr ⊢
  rw [← hbe] at hbb h4 ⊢
  obtain ⟨ha, hap1⟩ := hab
  obtain ⟨hb, hap2⟩ := hbb
  unfold apt at hap1 hap2
  have la := ha.2.1
  have lb := hb.2.1
  have mi1 : min (N a) 16 = N a := by omega
  have hok := pcsOf_ok (a := I a) (b := I b) (na := N a) (nb := N b) la.1 lb.1
  have loop : ∀ (n : Nat) (x i j : Int) (D : List (Int × Int × Int × Int)) (J : Nat → Int → Int) (S : Nat → Int → Option Nat) (c8 : ax_V), (N a - x).toNat = n → 0 ≤ i → i ≤ x → x ≤ N a → j = (mtS (I a) (I b) (N a) (N b) x.toNat).2 → D.length ≤ i → mcF I J R S m → J m 4 = D.length → (∀ i : Int, 0 ≤ i → i < N a → J (m + 2) i = mtP (I a) (I b) (N a) (N b) i) → mcR J S m a b D → pcsOf (I a) (I b) (N a) (N b) = D ++ pcsL (mtP (I a) (I b) (N a) (N b)) (N a) (N b) n x i j → axX G f 0 0 (fun r1 T1 N1 I1 R1 z1 => (r1 = none ∧ mcF I I1 R R1 m ∧ mcS T N I1 R1 m (chgL (I a) (I b) (pcsOf (I a) (I b) (N a) (N b))) ∧ mcW R1 m a b (pcsOf (I a) (I b) (N a) (N b)).length) ∧ T1 = T ∧ N1 = N ∧ z1 = z) 39 [vR m, vR (A c), vR a, vR b, vI i, vI j, vI (N a), vI x, c8] [] T N J S z 0 0 := by
    intro n
    induction n with
    | zero =>
      intro x i j D J S c8 hn i0 ix xn hj hD hF h4' hv hR hL
      have hxn : x = N a := by omega
      have hmS := mtT_fr (S := S) hm (fun q a1 a2 => hF.2 q (by omega))
      have hsf := mtS_f (I a) (I b) (na := N a) (nb := N b) lb.1 x.toNat
      rw [← hj] at hsf
      have hDl : D.length < 17 := by omega
      obtain ⟨d1, d2, d3, d4⟩ := hmS.2.2.2.2.2 D.length hDl
      have fin : ∀ (J : Nat → Int → Int) (S : Nat → Int → Option Nat) (c4 c5 c8 : ax_V), mcF I J R S m → J m 4 = (pcsOf (I a) (I b) (N a) (N b)).length → mcR J S m a b (pcsOf (I a) (I b) (N a) (N b)) → axX G f 0 0 (fun r1 T1 N1 I1 R1 z1 => (r1 = none ∧ mcF I I1 R R1 m ∧ mcS T N I1 R1 m (chgL (I a) (I b) (pcsOf (I a) (I b) (N a) (N b))) ∧ mcW R1 m a b (pcsOf (I a) (I b) (N a) (N b)).length) ∧ T1 = T ∧ N1 = N ∧ z1 = z) 39 [vR m, vR (A c), vR a, vR b, c4, c5, vI (N a), vI (x + 1), c8] [] T N J S z 0 0 := by
        intro J S c4 c5 c8 hF h4' hR
        refine x_iload (pc := 39) hC dX2_readChange_39 rfl ?_
        refine x_iload (pc := 41) hC dX2_readChange_41 rfl ?_
        refine x_icmp_gt (pc := 43) hC 153 dX2_readChange_43 (by decide) (by omega) (by omega) (fun b43 => ?_) (fun b43 => ?_)
        · refine x_vret (pc := 153) hC rfl dX2_readChange_153 ?_
          exact ⟨⟨rfl, hF, mcS_of hm ha hb (hF.1 a hap1) (hF.1 b hap2) h4' (by omega) hR hok.1, mcW_of hR⟩, rfl, rfl, rfl⟩
        · omega
      simp only [pcsL] at hL
      refine x_iload (pc := 39) hC dX2_readChange_39 rfl ?_
      refine x_iload (pc := 41) hC dX2_readChange_41 rfl ?_
      refine x_icmp_gt (pc := 43) hC 153 dX2_readChange_43 (by decide) (by omega) (by omega) (fun b43 => ?_) (fun b43 => ?_)
      · omega
      · refine x_iload (pc := 46) hC dX2_readChange_46 rfl ?_
        refine x_iload (pc := 48) hC dX2_readChange_48 rfl ?_
        refine x_icmp_ge (pc := 50) hC 63 dX2_readChange_50 (by decide) (by omega) (by omega) (fun _ => ?_) (fun h => by omega)
        refine x_aload_n (pc := 63) hC dX2_readChange_63 rfl ?_
        refine x_alen (pc := 64) hC dX2_readChange_64 (by rw [hb.1]; decide) (by rw [hb.1]; decide) ?_
        refine x_istore (pc := 65) hC dX2_readChange_65 (Nat.le_of_ble_eq_true rfl) ?_
        dsimp only [List.set]
        refine x_iload (pc := 67) hC dX2_readChange_67 rfl ?_
        refine x_bipush (pc := 69) hC dX2_readChange_69 (by decide) ?_
        refine x_icmp_ne (pc := 71) hC 77 dX2_readChange_71 (by decide) (by omega) (by omega) (fun b71 => ?_) (fun b71 => ?_)
        · refine x_iload (pc := 77) hC dX2_readChange_77 rfl ?_
          refine x_iload (pc := 79) hC dX2_readChange_79 rfl ?_
          refine x_icmp_gt (pc := 81) hC 91 dX2_readChange_81 (by decide) (by omega) (by omega) (fun b81 => ?_) (fun b81 => ?_)
          · rw [if_pos (by omega)] at hL
            refine x_aload_n (pc := 91) hC dX2_readChange_91 rfl ?_
            refine x_getO (pc := 92) hC gf_X2_20 dX2_readChange_92 hm.1 hmS.2.2.2.1.1 ?_
            refine x_aload_n (pc := 95) hC dX2_readChange_95 rfl ?_
            refine x_getI (pc := 96) hC gf_X2_54 dX2_readChange_96 hm.1 ?_
            rw [h4']
            refine x_aald (pc := 99) hC axEl_14 dX2_readChange_99 hm.2.2.2.1.2.1 (by omega) (by rw [hm.2.2.2.1.2.2]; omega) d1 ?_
            refine x_aload_n (pc := 100) hC dX2_readChange_100 rfl ?_
            refine x_iload (pc := 101) hC dX2_readChange_101 rfl ?_
            refine x_iload (pc := 103) hC dX2_readChange_103 rfl ?_
            refine x_rV (pc := 105) hC cv_X2_58 dX2_readChange_105 (c_setTo d2 ha.1 (by omega) i0 ix xn) d2 rfl (by decide) rfl rfl (Nat.le_of_ble_eq_true rfl) ?_
            rintro v I5 S5 ⟨rfl, hI5, hS5⟩
            change I5 = setI _ _ _ _ at hI5
            subst hI5 hS5
            dsimp only [Option.toList, List.nil_append]
            refine x_aload_n (pc := 108) hC dX2_readChange_108 rfl ?_
            refine x_getO (pc := 109) hC gf_X2_24 dX2_readChange_109 hm.1 (Eq.trans (axu_a (by omega)) hmS.2.2.2.2.1.1) ?_
            refine x_aload_n (pc := 112) hC dX2_readChange_112 rfl ?_
            refine x_getI (pc := 113) hC gf_X2_54 dX2_readChange_113 hm.1 ?_
            rw [setI_o (by omega), h4']
            refine x_aald (pc := 116) hC axEl_14 dX2_readChange_116 hm.2.2.2.2.1.2.1 (by omega) (by rw [hm.2.2.2.2.1.2.2]; omega) (Eq.trans (axu_a (by omega)) d3) ?_
            refine x_aload_n (pc := 117) hC dX2_readChange_117 rfl ?_
            refine x_iload (pc := 118) hC dX2_readChange_118 rfl ?_
            refine x_iload (pc := 120) hC dX2_readChange_120 rfl ?_
            refine x_rV (pc := 122) hC cv_X2_58 dX2_readChange_122 (c_setTo d4 hb.1 (by omega) hsf.1 (by omega) (by omega)) d4 rfl (by decide) rfl rfl (Nat.le_of_ble_eq_true rfl) ?_
            rintro v I5 S5 ⟨rfl, hI5, hS5⟩
            change I5 = setI _ _ _ _ at hI5
            subst hI5 hS5
            dsimp only [Option.toList, List.nil_append]
            refine x_aload_n (pc := 125) hC dX2_readChange_125 rfl ?_
            refine x_dup (pc := 126) hC dX2_readChange_126 rfl ?_
            refine x_getI (pc := 127) hC gf_X2_54 dX2_readChange_127 hm.1 ?_
            rw [setI_o (by omega), setI_o (by omega), h4']
            refine x_iconst (pc := 130) hC dX2_readChange_130 ?_
            refine x_iadd (pc := 131) hC dX2_readChange_131 ?_
            refine x_putI (pc := 132) hC pf_X2_54 dX2_readChange_132 hm.1 (by decide) ?_
            refine x_iload (pc := 135) hC dX2_readChange_135 rfl ?_
            refine x_iconst (pc := 137) hC dX2_readChange_137 ?_
            refine x_iadd (pc := 138) hC dX2_readChange_138 ?_
            refine x_istore (pc := 139) hC dX2_readChange_139 (Nat.le_of_ble_eq_true rfl) ?_
            dsimp only [List.set]
            refine x_iload (pc := 141) hC dX2_readChange_141 rfl ?_
            refine x_iconst (pc := 143) hC dX2_readChange_143 ?_
            refine x_iadd (pc := 144) hC dX2_readChange_144 ?_
            refine x_istore (pc := 145) hC dX2_readChange_145 (Nat.le_of_ble_eq_true rfl) ?_
            dsimp only [List.set]
            refine x_iinc (pc := 147) hC dX2_readChange_147 rfl ?_
            dsimp only [List.set]
            refine x_goto (pc := 150) hC 39 dX2_readChange_150 (by decide) ?_
            have hF' : mcF I (ax_u (setI (setI J (m + 5 + 2 * D.length) i x) (m + 6 + 2 * D.length) j (N b)) m 4 ((D.length : Int) + 1)) R (ax_u (ax_u S (m + 5 + 2 * D.length) 0 (some a)) (m + 6 + 2 * D.length) 0 (some b)) m := ⟨fun q hq => by rw [axu_row (by omega), setI_o (by omega), setI_o (by omega)]; exact hF.1 q hq, fun q hq => by rw [axu_row (by omega), axu_row (by omega)]; exact hF.2 q hq⟩
            exact fin _ _ _ _ _ hF' (by rw [hL, axu_s]; simp) (by rw [hL, ← hxn]; exact mcR_add hR _ hDl)
          · refine x_iload (pc := 84) hC dX2_readChange_84 rfl ?_
            refine x_iload (pc := 86) hC dX2_readChange_86 rfl ?_
            refine x_icmp_le (pc := 88) hC 135 dX2_readChange_88 (by decide) (by omega) (by omega) (fun b88 => ?_) (fun b88 => ?_)
            · rw [if_neg (by omega), List.append_nil] at hL
              refine x_iload (pc := 135) hC dX2_readChange_135 rfl ?_
              refine x_iconst (pc := 137) hC dX2_readChange_137 ?_
              refine x_iadd (pc := 138) hC dX2_readChange_138 ?_
              refine x_istore (pc := 139) hC dX2_readChange_139 (Nat.le_of_ble_eq_true rfl) ?_
              dsimp only [List.set]
              refine x_iload (pc := 141) hC dX2_readChange_141 rfl ?_
              refine x_iconst (pc := 143) hC dX2_readChange_143 ?_
              refine x_iadd (pc := 144) hC dX2_readChange_144 ?_
              refine x_istore (pc := 145) hC dX2_readChange_145 (Nat.le_of_ble_eq_true rfl) ?_
              dsimp only [List.set]
              refine x_iinc (pc := 147) hC dX2_readChange_147 rfl ?_
              dsimp only [List.set]
              refine x_goto (pc := 150) hC 39 dX2_readChange_150 (by decide) ?_
              exact fin J S _ _ _ hF (by rw [hL]; exact h4') (by rw [hL]; exact hR)
            · rw [if_pos (by omega)] at hL
              refine x_aload_n (pc := 91) hC dX2_readChange_91 rfl ?_
              refine x_getO (pc := 92) hC gf_X2_20 dX2_readChange_92 hm.1 hmS.2.2.2.1.1 ?_
              refine x_aload_n (pc := 95) hC dX2_readChange_95 rfl ?_
              refine x_getI (pc := 96) hC gf_X2_54 dX2_readChange_96 hm.1 ?_
              rw [h4']
              refine x_aald (pc := 99) hC axEl_14 dX2_readChange_99 hm.2.2.2.1.2.1 (by omega) (by rw [hm.2.2.2.1.2.2]; omega) d1 ?_
              refine x_aload_n (pc := 100) hC dX2_readChange_100 rfl ?_
              refine x_iload (pc := 101) hC dX2_readChange_101 rfl ?_
              refine x_iload (pc := 103) hC dX2_readChange_103 rfl ?_
              refine x_rV (pc := 105) hC cv_X2_58 dX2_readChange_105 (c_setTo d2 ha.1 (by omega) i0 ix xn) d2 rfl (by decide) rfl rfl (Nat.le_of_ble_eq_true rfl) ?_
              rintro v I5 S5 ⟨rfl, hI5, hS5⟩
              change I5 = setI _ _ _ _ at hI5
              subst hI5 hS5
              dsimp only [Option.toList, List.nil_append]
              refine x_aload_n (pc := 108) hC dX2_readChange_108 rfl ?_
              refine x_getO (pc := 109) hC gf_X2_24 dX2_readChange_109 hm.1 (Eq.trans (axu_a (by omega)) hmS.2.2.2.2.1.1) ?_
              refine x_aload_n (pc := 112) hC dX2_readChange_112 rfl ?_
              refine x_getI (pc := 113) hC gf_X2_54 dX2_readChange_113 hm.1 ?_
              rw [setI_o (by omega), h4']
              refine x_aald (pc := 116) hC axEl_14 dX2_readChange_116 hm.2.2.2.2.1.2.1 (by omega) (by rw [hm.2.2.2.2.1.2.2]; omega) (Eq.trans (axu_a (by omega)) d3) ?_
              refine x_aload_n (pc := 117) hC dX2_readChange_117 rfl ?_
              refine x_iload (pc := 118) hC dX2_readChange_118 rfl ?_
              refine x_iload (pc := 120) hC dX2_readChange_120 rfl ?_
              refine x_rV (pc := 122) hC cv_X2_58 dX2_readChange_122 (c_setTo d4 hb.1 (by omega) hsf.1 (by omega) (by omega)) d4 rfl (by decide) rfl rfl (Nat.le_of_ble_eq_true rfl) ?_
              rintro v I5 S5 ⟨rfl, hI5, hS5⟩
              change I5 = setI _ _ _ _ at hI5
              subst hI5 hS5
              dsimp only [Option.toList, List.nil_append]
              refine x_aload_n (pc := 125) hC dX2_readChange_125 rfl ?_
              refine x_dup (pc := 126) hC dX2_readChange_126 rfl ?_
              refine x_getI (pc := 127) hC gf_X2_54 dX2_readChange_127 hm.1 ?_
              rw [setI_o (by omega), setI_o (by omega), h4']
              refine x_iconst (pc := 130) hC dX2_readChange_130 ?_
              refine x_iadd (pc := 131) hC dX2_readChange_131 ?_
              refine x_putI (pc := 132) hC pf_X2_54 dX2_readChange_132 hm.1 (by decide) ?_
              refine x_iload (pc := 135) hC dX2_readChange_135 rfl ?_
              refine x_iconst (pc := 137) hC dX2_readChange_137 ?_
              refine x_iadd (pc := 138) hC dX2_readChange_138 ?_
              refine x_istore (pc := 139) hC dX2_readChange_139 (Nat.le_of_ble_eq_true rfl) ?_
              dsimp only [List.set]
              refine x_iload (pc := 141) hC dX2_readChange_141 rfl ?_
              refine x_iconst (pc := 143) hC dX2_readChange_143 ?_
              refine x_iadd (pc := 144) hC dX2_readChange_144 ?_
              refine x_istore (pc := 145) hC dX2_readChange_145 (Nat.le_of_ble_eq_true rfl) ?_
              dsimp only [List.set]
              refine x_iinc (pc := 147) hC dX2_readChange_147 rfl ?_
              dsimp only [List.set]
              refine x_goto (pc := 150) hC 39 dX2_readChange_150 (by decide) ?_
              have hF' : mcF I (ax_u (setI (setI J (m + 5 + 2 * D.length) i x) (m + 6 + 2 * D.length) j (N b)) m 4 ((D.length : Int) + 1)) R (ax_u (ax_u S (m + 5 + 2 * D.length) 0 (some a)) (m + 6 + 2 * D.length) 0 (some b)) m := ⟨fun q hq => by rw [axu_row (by omega), setI_o (by omega), setI_o (by omega)]; exact hF.1 q hq, fun q hq => by rw [axu_row (by omega), axu_row (by omega)]; exact hF.2 q hq⟩
              exact fin _ _ _ _ _ hF' (by rw [hL, axu_s]; simp) (by rw [hL, ← hxn]; exact mcR_add hR _ hDl)
        · refine x_goto (pc := 74) hC 147 dX2_readChange_74 (by decide) ?_
          exfalso; omega
    | succ n ih =>
      intro x i j D J S c8 hn i0 ix xn hj hD hF h4' hv hR hL
      have hmS := mtT_fr (S := S) hm (fun q a1 a2 => hF.2 q (by omega))
      have hsf := mtS_f (I a) (I b) (na := N a) (nb := N b) lb.1 x.toNat
      have hms := mtS_s (a := I a) (b := I b) (na := N a) (nb := N b) (i := x) (by omega)
      have hmr := mtP_r (I a) (I b) (na := N a) (nb := N b) x lb.1
      rw [← hj] at hsf hmr
      have hDl : D.length < 17 := by omega
      obtain ⟨d1, d2, d3, d4⟩ := hmS.2.2.2.2.2 D.length hDl
      have hvx := hv x (by omega) (by omega)
      simp only [pcsL] at hL
      refine x_iload (pc := 39) hC dX2_readChange_39 rfl ?_
      refine x_iload (pc := 41) hC dX2_readChange_41 rfl ?_
      refine x_icmp_gt (pc := 43) hC 153 dX2_readChange_43 (by decide) (by omega) (by omega) (fun b43 => ?_) (fun b43 => ?_)
      · omega
      · refine x_iload (pc := 46) hC dX2_readChange_46 rfl ?_
        refine x_iload (pc := 48) hC dX2_readChange_48 rfl ?_
        refine x_icmp_ge (pc := 50) hC 63 dX2_readChange_50 (by decide) (by omega) (by omega) (fun h => by omega) (fun _ => ?_)
        refine x_aload_n (pc := 53) hC dX2_readChange_53 rfl ?_
        refine x_getO (pc := 54) hC gf_X2_15 dX2_readChange_54 hm.1 hmS.2.2.1.1 ?_
        refine x_iload (pc := 57) hC dX2_readChange_57 rfl ?_
        refine x_iald (pc := 59) hC dX2_readChange_59 hm.2.2.1.2.1 (by omega) (by rw [hm.2.2.1.2.2]; omega) ?_
        rw [hvx]
        refine x_goto (pc := 60) hC 65 dX2_readChange_60 (by decide) ?_
        refine x_istore (pc := 65) hC dX2_readChange_65 (Nat.le_of_ble_eq_true rfl) ?_
        dsimp only [List.set]
        refine x_iload (pc := 67) hC dX2_readChange_67 rfl ?_
        refine x_bipush (pc := 69) hC dX2_readChange_69 (by decide) ?_
        refine x_icmp_ne (pc := 71) hC 77 dX2_readChange_71 (by decide) (by omega) (by omega) (fun b71 => ?_) (fun b71 => ?_)
        · refine x_iload (pc := 77) hC dX2_readChange_77 rfl ?_
          refine x_iload (pc := 79) hC dX2_readChange_79 rfl ?_
          refine x_icmp_gt (pc := 81) hC 91 dX2_readChange_81 (by decide) (by omega) (by omega) (fun b81 => ?_) (fun b81 => ?_)
          · rw [if_neg (by assumption)] at hL hms
            rw [if_pos (by omega), ← List.append_assoc] at hL
            refine x_aload_n (pc := 91) hC dX2_readChange_91 rfl ?_
            refine x_getO (pc := 92) hC gf_X2_20 dX2_readChange_92 hm.1 hmS.2.2.2.1.1 ?_
            refine x_aload_n (pc := 95) hC dX2_readChange_95 rfl ?_
            refine x_getI (pc := 96) hC gf_X2_54 dX2_readChange_96 hm.1 ?_
            rw [h4']
            refine x_aald (pc := 99) hC axEl_14 dX2_readChange_99 hm.2.2.2.1.2.1 (by omega) (by rw [hm.2.2.2.1.2.2]; omega) d1 ?_
            refine x_aload_n (pc := 100) hC dX2_readChange_100 rfl ?_
            refine x_iload (pc := 101) hC dX2_readChange_101 rfl ?_
            refine x_iload (pc := 103) hC dX2_readChange_103 rfl ?_
            refine x_rV (pc := 105) hC cv_X2_58 dX2_readChange_105 (c_setTo d2 ha.1 (by omega) i0 ix xn) d2 rfl (by decide) rfl rfl (Nat.le_of_ble_eq_true rfl) ?_
            rintro v I5 S5 ⟨rfl, hI5, hS5⟩
            change I5 = setI _ _ _ _ at hI5
            subst hI5 hS5
            dsimp only [Option.toList, List.nil_append]
            refine x_aload_n (pc := 108) hC dX2_readChange_108 rfl ?_
            refine x_getO (pc := 109) hC gf_X2_24 dX2_readChange_109 hm.1 (Eq.trans (axu_a (by omega)) hmS.2.2.2.2.1.1) ?_
            refine x_aload_n (pc := 112) hC dX2_readChange_112 rfl ?_
            refine x_getI (pc := 113) hC gf_X2_54 dX2_readChange_113 hm.1 ?_
            rw [setI_o (by omega), h4']
            refine x_aald (pc := 116) hC axEl_14 dX2_readChange_116 hm.2.2.2.2.1.2.1 (by omega) (by rw [hm.2.2.2.2.1.2.2]; omega) (Eq.trans (axu_a (by omega)) d3) ?_
            refine x_aload_n (pc := 117) hC dX2_readChange_117 rfl ?_
            refine x_iload (pc := 118) hC dX2_readChange_118 rfl ?_
            refine x_iload (pc := 120) hC dX2_readChange_120 rfl ?_
            refine x_rV (pc := 122) hC cv_X2_58 dX2_readChange_122 (c_setTo d4 hb.1 (by omega) hsf.1 (by omega) (by omega)) d4 rfl (by decide) rfl rfl (Nat.le_of_ble_eq_true rfl) ?_
            rintro v I5 S5 ⟨rfl, hI5, hS5⟩
            change I5 = setI _ _ _ _ at hI5
            subst hI5 hS5
            dsimp only [Option.toList, List.nil_append]
            refine x_aload_n (pc := 125) hC dX2_readChange_125 rfl ?_
            refine x_dup (pc := 126) hC dX2_readChange_126 rfl ?_
            refine x_getI (pc := 127) hC gf_X2_54 dX2_readChange_127 hm.1 ?_
            rw [setI_o (by omega), setI_o (by omega), h4']
            refine x_iconst (pc := 130) hC dX2_readChange_130 ?_
            refine x_iadd (pc := 131) hC dX2_readChange_131 ?_
            refine x_putI (pc := 132) hC pf_X2_54 dX2_readChange_132 hm.1 (by decide) ?_
            refine x_iload (pc := 135) hC dX2_readChange_135 rfl ?_
            refine x_iconst (pc := 137) hC dX2_readChange_137 ?_
            refine x_iadd (pc := 138) hC dX2_readChange_138 ?_
            refine x_istore (pc := 139) hC dX2_readChange_139 (Nat.le_of_ble_eq_true rfl) ?_
            dsimp only [List.set]
            refine x_iload (pc := 141) hC dX2_readChange_141 rfl ?_
            refine x_iconst (pc := 143) hC dX2_readChange_143 ?_
            refine x_iadd (pc := 144) hC dX2_readChange_144 ?_
            refine x_istore (pc := 145) hC dX2_readChange_145 (Nat.le_of_ble_eq_true rfl) ?_
            dsimp only [List.set]
            refine x_iinc (pc := 147) hC dX2_readChange_147 rfl ?_
            dsimp only [List.set]
            refine x_goto (pc := 150) hC 39 dX2_readChange_150 (by decide) ?_
            refine ih (x + 1) (x + 1) _ (D ++ [(i, x, j, mtP (I a) (I b) (N a) (N b) x)]) _ _ _ (by omega) (by omega) (by omega) (by omega) (by rw [hms]) (by simp; omega) ⟨fun q hq => by rw [axu_row (by omega), setI_o (by omega), setI_o (by omega)]; exact hF.1 q hq, fun q hq => by rw [axu_row (by omega), axu_row (by omega)]; exact hF.2 q hq⟩ (by rw [axu_s]; simp) (fun k a1 a2 => by rw [axu_row (by omega), setI_o (by omega), setI_o (by omega)]; exact hv k a1 a2) (mcR_add hR _ hDl) hL
          · refine x_iload (pc := 84) hC dX2_readChange_84 rfl ?_
            refine x_iload (pc := 86) hC dX2_readChange_86 rfl ?_
            refine x_icmp_le (pc := 88) hC 135 dX2_readChange_88 (by decide) (by omega) (by omega) (fun b88 => ?_) (fun b88 => ?_)
            · rw [if_neg (by assumption)] at hL hms
              rw [if_neg (by omega), List.nil_append] at hL
              refine x_iload (pc := 135) hC dX2_readChange_135 rfl ?_
              refine x_iconst (pc := 137) hC dX2_readChange_137 ?_
              refine x_iadd (pc := 138) hC dX2_readChange_138 ?_
              refine x_istore (pc := 139) hC dX2_readChange_139 (Nat.le_of_ble_eq_true rfl) ?_
              dsimp only [List.set]
              refine x_iload (pc := 141) hC dX2_readChange_141 rfl ?_
              refine x_iconst (pc := 143) hC dX2_readChange_143 ?_
              refine x_iadd (pc := 144) hC dX2_readChange_144 ?_
              refine x_istore (pc := 145) hC dX2_readChange_145 (Nat.le_of_ble_eq_true rfl) ?_
              dsimp only [List.set]
              refine x_iinc (pc := 147) hC dX2_readChange_147 rfl ?_
              dsimp only [List.set]
              refine x_goto (pc := 150) hC 39 dX2_readChange_150 (by decide) ?_
              exact ih (x + 1) (x + 1) _ D J S _ (by omega) (by omega) (by omega) (by omega) (by rw [hms]) (by omega) hF h4' hv hR hL
            · rw [if_neg (by assumption)] at hL hms
              rw [if_pos (by omega), ← List.append_assoc] at hL
              refine x_aload_n (pc := 91) hC dX2_readChange_91 rfl ?_
              refine x_getO (pc := 92) hC gf_X2_20 dX2_readChange_92 hm.1 hmS.2.2.2.1.1 ?_
              refine x_aload_n (pc := 95) hC dX2_readChange_95 rfl ?_
              refine x_getI (pc := 96) hC gf_X2_54 dX2_readChange_96 hm.1 ?_
              rw [h4']
              refine x_aald (pc := 99) hC axEl_14 dX2_readChange_99 hm.2.2.2.1.2.1 (by omega) (by rw [hm.2.2.2.1.2.2]; omega) d1 ?_
              refine x_aload_n (pc := 100) hC dX2_readChange_100 rfl ?_
              refine x_iload (pc := 101) hC dX2_readChange_101 rfl ?_
              refine x_iload (pc := 103) hC dX2_readChange_103 rfl ?_
              refine x_rV (pc := 105) hC cv_X2_58 dX2_readChange_105 (c_setTo d2 ha.1 (by omega) i0 ix xn) d2 rfl (by decide) rfl rfl (Nat.le_of_ble_eq_true rfl) ?_
              rintro v I5 S5 ⟨rfl, hI5, hS5⟩
              change I5 = setI _ _ _ _ at hI5
              subst hI5 hS5
              dsimp only [Option.toList, List.nil_append]
              refine x_aload_n (pc := 108) hC dX2_readChange_108 rfl ?_
              refine x_getO (pc := 109) hC gf_X2_24 dX2_readChange_109 hm.1 (Eq.trans (axu_a (by omega)) hmS.2.2.2.2.1.1) ?_
              refine x_aload_n (pc := 112) hC dX2_readChange_112 rfl ?_
              refine x_getI (pc := 113) hC gf_X2_54 dX2_readChange_113 hm.1 ?_
              rw [setI_o (by omega), h4']
              refine x_aald (pc := 116) hC axEl_14 dX2_readChange_116 hm.2.2.2.2.1.2.1 (by omega) (by rw [hm.2.2.2.2.1.2.2]; omega) (Eq.trans (axu_a (by omega)) d3) ?_
              refine x_aload_n (pc := 117) hC dX2_readChange_117 rfl ?_
              refine x_iload (pc := 118) hC dX2_readChange_118 rfl ?_
              refine x_iload (pc := 120) hC dX2_readChange_120 rfl ?_
              refine x_rV (pc := 122) hC cv_X2_58 dX2_readChange_122 (c_setTo d4 hb.1 (by omega) hsf.1 (by omega) (by omega)) d4 rfl (by decide) rfl rfl (Nat.le_of_ble_eq_true rfl) ?_
              rintro v I5 S5 ⟨rfl, hI5, hS5⟩
              change I5 = setI _ _ _ _ at hI5
              subst hI5 hS5
              dsimp only [Option.toList, List.nil_append]
              refine x_aload_n (pc := 125) hC dX2_readChange_125 rfl ?_
              refine x_dup (pc := 126) hC dX2_readChange_126 rfl ?_
              refine x_getI (pc := 127) hC gf_X2_54 dX2_readChange_127 hm.1 ?_
              rw [setI_o (by omega), setI_o (by omega), h4']
              refine x_iconst (pc := 130) hC dX2_readChange_130 ?_
              refine x_iadd (pc := 131) hC dX2_readChange_131 ?_
              refine x_putI (pc := 132) hC pf_X2_54 dX2_readChange_132 hm.1 (by decide) ?_
              refine x_iload (pc := 135) hC dX2_readChange_135 rfl ?_
              refine x_iconst (pc := 137) hC dX2_readChange_137 ?_
              refine x_iadd (pc := 138) hC dX2_readChange_138 ?_
              refine x_istore (pc := 139) hC dX2_readChange_139 (Nat.le_of_ble_eq_true rfl) ?_
              dsimp only [List.set]
              refine x_iload (pc := 141) hC dX2_readChange_141 rfl ?_
              refine x_iconst (pc := 143) hC dX2_readChange_143 ?_
              refine x_iadd (pc := 144) hC dX2_readChange_144 ?_
              refine x_istore (pc := 145) hC dX2_readChange_145 (Nat.le_of_ble_eq_true rfl) ?_
              dsimp only [List.set]
              refine x_iinc (pc := 147) hC dX2_readChange_147 rfl ?_
              dsimp only [List.set]
              refine x_goto (pc := 150) hC 39 dX2_readChange_150 (by decide) ?_
              refine ih (x + 1) (x + 1) _ (D ++ [(i, x, j, mtP (I a) (I b) (N a) (N b) x)]) _ _ _ (by omega) (by omega) (by omega) (by omega) (by rw [hms]) (by simp; omega) ⟨fun q hq => by rw [axu_row (by omega), setI_o (by omega), setI_o (by omega)]; exact hF.1 q hq, fun q hq => by rw [axu_row (by omega), axu_row (by omega)]; exact hF.2 q hq⟩ (by rw [axu_s]; simp) (fun k a1 a2 => by rw [axu_row (by omega), setI_o (by omega), setI_o (by omega)]; exact hv k a1 a2) (mcR_add hR _ hDl) hL
        · refine x_goto (pc := 74) hC 147 dX2_readChange_74 (by decide) ?_
          rw [if_pos (by assumption)] at hL hms
          refine x_iinc (pc := 147) hC dX2_readChange_147 rfl ?_
          dsimp only [List.set]
          refine x_goto (pc := 150) hC 39 dX2_readChange_150 (by decide) ?_
          exact ih (x + 1) i j D J S _ (by omega) i0 (by omega) (by omega) (by rw [hms]; exact hj) hD hF h4' hv hR hL
  refine x_aload_n (pc := 0) hC dX2_readChange_0 rfl ?_
  refine x_mU (pc := 1) hC (cq_X2_41 h1) dX2_readChange_1 hpr rfl rfl (by decide) rfl rfl (Nat.le_of_ble_eq_true rfl) ?_
  refine x_astore_n (pc := 4) hC dX2_readChange_4 (Nat.le_of_ble_eq_true rfl) ?_
  dsimp only [List.set]
  refine x_aload_n (pc := 5) hC dX2_readChange_5 rfl ?_
  refine x_getO (pc := 6) hC (gp_X2_47 h1) dX2_readChange_6 rfl h4 ?_
  refine x_astore_n (pc := 9) hC dX2_readChange_9 (Nat.le_of_ble_eq_true rfl) ?_
  dsimp only [List.set]
  refine x_aload_n (pc := 10) hC dX2_readChange_10 rfl ?_
  refine x_aload_n (pc := 11) hC dX2_readChange_11 rfl ?_
  refine x_aload_n (pc := 12) hC dX2_readChange_12 rfl ?_
  refine x_mVx (pc := 13) hC cv_X2_50 dX2_readChange_13 (c_match hm ha hb (by omega) (by omega)) hm.1 rfl (by decide) rfl rfl (Nat.le_of_ble_eq_true rfl) ?_
  rintro v B ⟨rfl, hB, hBv⟩
  dsimp only [Option.toList, List.nil_append]
  refine x_aload_n (pc := 16) hC dX2_readChange_16 rfl ?_
  refine x_iconst (pc := 17) hC dX2_readChange_17 ?_
  refine x_putI (pc := 18) hC pf_X2_54 dX2_readChange_18 hm.1 (by decide) ?_
  refine x_iconst (pc := 21) hC dX2_readChange_21 ?_
  refine x_istore (pc := 22) hC dX2_readChange_22 (Nat.le_of_ble_eq_true rfl) ?_
  dsimp only [List.set]
  refine x_iconst (pc := 24) hC dX2_readChange_24 ?_
  refine x_istore (pc := 25) hC dX2_readChange_25 (Nat.le_of_ble_eq_true rfl) ?_
  dsimp only [List.set]
  refine x_aload_n (pc := 27) hC dX2_readChange_27 rfl ?_
  refine x_alen (pc := 28) hC dX2_readChange_28 (by rw [ha.1]; decide) (by rw [ha.1]; decide) ?_
  refine x_bipush (pc := 29) hC dX2_readChange_29 (by decide) ?_
  refine x_mmin (pc := 31) hC cs_X2_28 dX2_readChange_31 (by omega) (by omega) (by decide) rfl (Nat.le_of_ble_eq_true rfl) ?_
  rw [mi1]
  refine x_istore (pc := 34) hC dX2_readChange_34 (Nat.le_of_ble_eq_true rfl) ?_
  dsimp only [List.set]
  refine x_iconst (pc := 36) hC dX2_readChange_36 ?_
  refine x_istore (pc := 37) hC dX2_readChange_37 (Nat.le_of_ble_eq_true rfl) ?_
  dsimp only [List.set]
  exact loop _ 0 0 0 [] _ R _ rfl (by omega) (by omega) la.1 (by rw [mtS_0]) (by simp) ⟨fun q hq => by rw [axu_row (by omega)]; exact hB q (by omega) (by omega), fun q _ => rfl⟩ (by rw [axu_s]; rfl) (fun i a1 a2 => by rw [axu_a (by omega)]; exact hBv i a1 a2) (fun k q hq => by simp at hq) (by rw [Int.sub_zero]; rfl)

