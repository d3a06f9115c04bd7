/-! THE CLASS: the first commit, in the constructor -/
def fyS (G : ax_G) (T : Nat → Nat) (N : Nat → Int) (R : Nat → Int → Option Nat) (z a : Nat) : Prop := (a + 4 ≤ z ∧ G.2.2.2.1 ≤ a) ∧ ((T G.2.2.2.2.1 = 13 ∧ N G.2.2.2.2.1 = 0) ∧ G.2.2.2.2.1 < G.2.2.2.1) ∧ (∀ q, T q ≠ 99 → q < z) ∧ T a = 11 ∧ (R a 0 = some (a + 1) ∧ T (a + 1) = 10) ∧ (R a 1 = some (a + 2) ∧ T (a + 2) = 15 ∧ N (a + 2) = 24) ∧ (R a 3 = some (a + 3) ∧ T (a + 3) = 15 ∧ N (a + 3) = 4)
section
variable {G : ax_G} {T T1 : Nat → Nat} {N N1 : Nat → Int} {R R1 : Nat → Int → Option Nat} {z z1 a : Nat}
theorem fy_nl (h : fyS G T N R z a) : (T G.2.2.2.2.1 = 13 ∧ N G.2.2.2.2.1 = 0) ∧ G.2.2.2.2.1 < G.2.2.2.1 := h.2.1
theorem fy_tz (h : fyS G T N R z a) : ∀ q, T q ≠ 99 → q < z := h.2.2.1
theorem fy_ta (h : fyS G T N R z a) : T a = 11 := h.2.2.2.1
theorem fy_tr (h : fyS G T N R z a) : R a 0 = some (a + 1) ∧ T (a + 1) = 10 := h.2.2.2.2.1
theorem fy_cm (h : fyS G T N R z a) : R a 1 = some (a + 2) ∧ T (a + 2) = 15 ∧ N (a + 2) = 24 := h.2.2.2.2.2.1
theorem fy_tp (h : fyS G T N R z a) : R a 3 = some (a + 3) ∧ T (a + 3) = 15 ∧ N (a + 3) = 4 := h.2.2.2.2.2.2
theorem fy_le (h : fyS G T N R z a) (eT : ∀ q, q < z → T1 q = T q) (eN : ∀ q, q < z → N1 q = N q) (eR : ∀ q, q < z → R1 q = R q) (hz : z ≤ z1) (tz : ∀ q, T1 q ≠ 99 → q < z1) : fyS G T1 N1 R1 z1 a := by
  obtain ⟨⟨h1, h2⟩, ⟨⟨h3, h4⟩, h5⟩, h6, h7, ⟨h8, h9⟩, ⟨h10, h11, h12⟩, h13, h14, h15⟩ := h
  exact ⟨⟨by omega, h2⟩, ⟨⟨by rw [eT _ (by omega)]; exact h3, by rw [eN _ (by omega)]; exact h4⟩, h5⟩, tz, by rw [eT _ (by omega)]; exact h7, ⟨by rw [eR _ (by omega)]; exact h8, by rw [eT _ (by omega)]; exact h9⟩, ⟨by rw [eR _ (by omega)]; exact h10, by rw [eT _ (by omega)]; exact h11, by rw [eN _ (by omega)]; exact h12⟩, by rw [eR _ (by omega)]; exact h13, by rw [eT _ (by omega)]; exact h14, by rw [eN _ (by omega)]; exact h15⟩
theorem fy_up (h : fyS G T N R z a) (eT : ∀ q, q < z → T1 q = T q ∧ N1 q = N q) (eA : R1 a = R a) (e4 : R1 (a + 4) = R (a + 4)) (eG : ∀ k, k ≠ 16 → R1 (a + 5) k = R (a + 5) k) (eR : ∀ q, a + 7 ≤ q → q < a + 176 → R1 q = R q) (e8 : ∀ k, k ≠ 2 → k ≠ 3 → R1 (a + 183) k = R (a + 183) k) (e9 : ∀ k, k ≠ 2 → k ≠ 3 → R1 (a + 189) k = R (a + 189) k) (hz : z ≤ z1) (tz : ∀ q, T1 q ≠ 99 → q < z1) : fyS G T1 N1 R1 z1 a := by
  obtain ⟨⟨h1, h2⟩, ⟨⟨h3, h4⟩, h5⟩, h6, h7, ⟨h8, h9⟩, ⟨h10, h11, h12⟩, h13, h14, h15⟩ := h
  exact ⟨⟨by omega, h2⟩, ⟨⟨by rw [(eT _ (by omega)).1]; exact h3, by rw [(eT _ (by omega)).2]; exact h4⟩, h5⟩, tz, by rw [(eT _ (by omega)).1]; exact h7, ⟨by rw [eA]; exact h8, by rw [(eT _ (by omega)).1]; exact h9⟩, ⟨by rw [eA]; exact h10, by rw [(eT _ (by omega)).1]; exact h11, by rw [(eT _ (by omega)).2]; exact h12⟩, by rw [eA]; exact h13, by rw [(eT _ (by omega)).1]; exact h14, by rw [(eT _ (by omega)).2]; exact h15⟩
end
set_option maxRecDepth 100000 in
theorem c_makeCommit0 {G : ax_G} {T : Nat → Nat} {N : Nat → Int} {I : Nat → Int → Int} {R : Nat → Int → Option Nat} {z : Nat} {a : Nat} (hz0 : z = a + 182) (hx : fyS G T N R z a) {k : Int} {p q r : Option Nat} (hk : 0 ≤ k ∧ k ≤ 2) (hn : 0 ≤ I a 2 ∧ I a 2 < 24) : axM G YX11_makeCommit 4 [vR a, vI k, vO p, vO r, vO q] T N I R z 1 6 (fun r1 T1 N1 I1 R1 z1 => r1 = some (vR z) ∧ T1 = ax_n T z (tgK k) ∧ N1 = N ∧ I1 = mkI I z a k q ∧ R1 = ax_u (mkS R z a p r q) (a + 2) (I a 2) (some z) ∧ z1 = z + 1) := by

  refine ax_enter (by decide) (Nat.le_of_ble_eq_true rfl) (ax_cat (by cases p <;> cases q <;> cases r <;> rfl)) (fun f hC => ?_)
  show axX G f 1 6 _ 0 [vR a, vI k, vO p, vO r, vO q, vU] [] T N I R z 1 6
  have b1 := hz0
  have b2 := hz0
  have tz0 := fy_tz hx
  have hxn : ∀ tg, fyS G (ax_n T z tg) N (ax_n R z (fun _ => none)) (z + 1) a := fun tg => fy_le hx (fun q hq => axn_a (by omega)) (fun _ _ => rfl) (fun q hq => axn_a (by omega)) (by omega) (fun q hq => by
    by_cases e : q = z
    · omega
    · rw [axn_a e] at hq
      have := tz0 q hq
      omega)
  have hx0 := hxn 0
  have hx1 := hxn 1
  have hx5 := hxn 5
  have hxt : fyS G (ax_n T z (tgK k)) N (mkS R z a p r q) (z + 1) a := fy_up (hxn (tgK k)) (fun _ _ => ⟨rfl, rfl⟩) (by unfold mkS; rw [axu_row (by omega), axu_row (by omega), axu_row (by omega), axu_row (by omega)]) (by unfold mkS; rw [axu_row (by omega), axu_row (by omega), axu_row (by omega), axu_row (by omega)]) (fun j _ => by unfold mkS; rw [axu_a (by omega), axu_a (by omega), axu_a (by omega), axu_a (by omega)]) (fun q a1 a2 => by unfold mkS; rw [axu_row (by omega), axu_row (by omega), axu_row (by omega), axu_row (by omega)]) (fun j _ _ => by unfold mkS; rw [axu_a (by omega), axu_a (by omega), axu_a (by omega), axu_a (by omega)]) (fun j _ _ => by unfold mkS; rw [axu_a (by omega), axu_a (by omega), axu_a (by omega), axu_a (by omega)]) (Nat.le_refl _) (fy_tz (hxn (tgK k)))
  have e2 : (ax_u (ax_u (ax_n I z (fun _ => 0)) z 1 (I a 2)) (a + 1) 0 (mdT k (if q = none then -9 else 0) (I (a + 1) 0))) a 2 = I a 2 := by rw [axu_a (by omega), axu_a (by omega), axn_a (by omega)]
  have tail : ∀ (k9 n9 : Nat), axX G f 1 6 (fun r1 T1 N1 I1 R1 z1 => r1 = some (vR z) ∧ T1 = ax_n T z (tgK k) ∧ N1 = N ∧ I1 = mkI I z a k q ∧ R1 = ax_u (mkS R z a p r q) (a + 2) (I a 2) (some z) ∧ z1 = z + 1) 79 [vR a, vI k, vO p, vO r, vO q, vR z] [] (ax_n T z (tgK k)) N (ax_u (ax_u (ax_n I z (fun _ => 0)) z 1 (I a 2)) (a + 1) 0 (mdT k (if q = none then -9 else 0) (I (a + 1) 0))) (mkS R z a p r q) (z + 1) k9 n9 := by
    intro k9 n9
    refine x_aload_n (pc := 79) hC dX11_makeCommit_79 rfl ?_
    refine x_getI (pc := 80) hC gf_X11_105 dX11_makeCommit_80 (fy_ta hxt) ?_
    refine x_bipush (pc := 83) hC dX11_makeCommit_83 (by decide) ?_
    rw [e2]
    refine x_icmp_ge (pc := 85) hC 109 dX11_makeCommit_85 (by decide) (by omega) (by omega) (fun b85 => ?_) (fun b85 => ?_)
    · refine x_aload (pc := 109) hC dX11_makeCommit_109 rfl ?_
      refine x_aret (pc := 111) hC rfl (Or.inl ⟨_, rfl⟩) dX11_makeCommit_111 ?_
      first
      | exact ⟨rfl, rfl, rfl, rfl, rfl, rfl⟩
      | (exfalso; omega)
    · refine x_aload_n (pc := 88) hC dX11_makeCommit_88 rfl ?_
      refine x_getO (pc := 89) hC gf_X11_20 dX11_makeCommit_89 (fy_ta hxt) (fy_cm hxt).1 ?_
      refine x_aload_n (pc := 92) hC dX11_makeCommit_92 rfl ?_
      refine x_getI (pc := 93) hC gf_X11_105 dX11_makeCommit_93 (fy_ta hxt) ?_
      refine x_aload (pc := 96) hC dX11_makeCommit_96 rfl ?_
      rw [e2]
      refine x_aast (pc := 98) hC axEl_15 dX11_makeCommit_98 (fy_cm hxt).2.1 (by omega) (by rw [(fy_cm hxt).2.2]; omega) (fun v hv => by cases hv; rw [axn_s]; exact axTakes_5 (tgK_p k)) ?_
      refine x_aload_n (pc := 99) hC dX11_makeCommit_99 rfl ?_
      refine x_dup (pc := 100) hC dX11_makeCommit_100 rfl ?_
      refine x_getI (pc := 101) hC gf_X11_105 dX11_makeCommit_101 (fy_ta hxt) ?_
      rw [e2]
      refine x_iconst (pc := 104) hC dX11_makeCommit_104 ?_
      refine x_iadd (pc := 105) hC dX11_makeCommit_105 ?_
      refine x_putI (pc := 106) hC pf_X11_105 dX11_makeCommit_106 (fy_ta hxt) (by decide) ?_
      refine x_aload (pc := 109) hC dX11_makeCommit_109 rfl ?_
      refine x_aret (pc := 111) hC rfl (Or.inl ⟨_, rfl⟩) dX11_makeCommit_111 ?_
      first
      | exact ⟨rfl, rfl, rfl, rfl, rfl, rfl⟩
      | (exfalso; omega)
  refine x_iload_n (pc := 0) hC dX11_makeCommit_0 rfl ?_
  refine x_iconst (pc := 1) hC dX11_makeCommit_1 ?_
  refine x_icmp_ne (pc := 2) hC 29 dX11_makeCommit_2 (by decide) (by omega) (by omega) (fun b2 => ?_) (fun b2 => ?_)
  · refine x_iload_n (pc := 29) hC dX11_makeCommit_29 rfl ?_
    refine x_iconst (pc := 30) hC dX11_makeCommit_30 ?_
    refine x_icmp_ne (pc := 31) hC 58 dX11_makeCommit_31 (by decide) (by omega) (by omega) (fun b31 => ?_) (fun b31 => ?_)
    · refine x_new (pc := 58) hC nw_X11_18 dX11_makeCommit_58 (by omega) (by omega) ?_
      refine x_dup (pc := 61) hC dX11_makeCommit_61 rfl ?_
      refine x_aload_n (pc := 62) hC dX11_makeCommit_62 rfl ?_
      refine x_getO (pc := 63) hC gf_X11_14 dX11_makeCommit_63 (fy_ta hx5) (fy_tr hx5).1 ?_
      refine x_aload_n (pc := 66) hC dX11_makeCommit_66 rfl ?_
      refine x_getI (pc := 67) hC gf_X11_105 dX11_makeCommit_67 (fy_ta hx5) ?_
      refine x_aload_n (pc := 70) hC dX11_makeCommit_70 rfl ?_
      refine x_aload_n (pc := 71) hC dX11_makeCommit_71 rfl ?_
      refine x_aload (pc := 72) hC dX11_makeCommit_72 rfl ?_
      refine x_callI (pc := 74) hC ci_X11_71 dX11_makeCommit_74 (c_init5 (p := p) (q := q) (r := r) (Or.inr (Or.inr axn_s)) (fy_tr hx5).2) rfl (by decide) (by omega) (by omega) rfl rfl (Nat.le_of_ble_eq_true rfl) (fun _ _ _ _ _ _ hq => ?_)
      obtain ⟨⟨rfl, rfl, rfl⟩, rfl, rfl, rfl⟩ := hq
      dsimp only [Option.toList, List.nil_append]
      rw [axn_a (show a ≠ z by omega), axn_a (show a + 1 ≠ z by omega)]
      refine x_astore (pc := 77) hC dX11_makeCommit_77 (Nat.le_of_ble_eq_true rfl) ?_
      dsimp only [List.set]
      have htg : tgK k = 5 := by unfold tgK; simp [*]
      have e9 : ax_n T z 5 = ax_n T z (tgK k) := by rw [htg]
      have ek : k = 0 := by omega
      have em : ∀ x y, mdT 0 x y = mdT k x y := fun x y => by rw [ek]
      rw [e9, em]
      exact tail _ _
    · refine x_new (pc := 34) hC nw_X11_370 dX11_makeCommit_34 (by omega) (by omega) ?_
      refine x_dup (pc := 37) hC dX11_makeCommit_37 rfl ?_
      refine x_aload_n (pc := 38) hC dX11_makeCommit_38 rfl ?_
      refine x_getO (pc := 39) hC gf_X11_14 dX11_makeCommit_39 (fy_ta hx1) (fy_tr hx1).1 ?_
      refine x_aload_n (pc := 42) hC dX11_makeCommit_42 rfl ?_
      refine x_getI (pc := 43) hC gf_X11_105 dX11_makeCommit_43 (fy_ta hx1) ?_
      refine x_aload_n (pc := 46) hC dX11_makeCommit_46 rfl ?_
      refine x_aload_n (pc := 47) hC dX11_makeCommit_47 rfl ?_
      refine x_aload (pc := 48) hC dX11_makeCommit_48 rfl ?_
      refine x_callI (pc := 50) hC ci_X11_372 dX11_makeCommit_50 (c_init1 (p := p) (q := q) (r := r) (Or.inl axn_s) (fy_tr hx1).2) rfl (by decide) (by omega) (by omega) rfl rfl (Nat.le_of_ble_eq_true rfl) (fun _ _ _ _ _ _ hq => ?_)
      obtain ⟨⟨rfl, rfl, rfl⟩, rfl, rfl, rfl⟩ := hq
      dsimp only [Option.toList, List.nil_append]
      rw [axn_a (show a ≠ z by omega), axn_a (show a + 1 ≠ z by omega)]
      refine x_astore (pc := 53) hC dX11_makeCommit_53 (Nat.le_of_ble_eq_true rfl) ?_
      dsimp only [List.set]
      refine x_goto (pc := 55) hC 79 dX11_makeCommit_55 (by decide) ?_
      have htg : tgK k = 1 := by unfold tgK; simp [*]
      have e9 : ax_n T z 1 = ax_n T z (tgK k) := by rw [htg]
      have ek : k = 1 := by omega
      have em : ∀ x y, mdT 1 x y = mdT k x y := fun x y => by rw [ek]
      rw [e9, em]
      exact tail _ _
  · refine x_new (pc := 5) hC nw_X11_367 dX11_makeCommit_5 (by omega) (by omega) ?_
    refine x_dup (pc := 8) hC dX11_makeCommit_8 rfl ?_
    refine x_aload_n (pc := 9) hC dX11_makeCommit_9 rfl ?_
    refine x_getO (pc := 10) hC gf_X11_14 dX11_makeCommit_10 (fy_ta hx0) (fy_tr hx0).1 ?_
    refine x_aload_n (pc := 13) hC dX11_makeCommit_13 rfl ?_
    refine x_getI (pc := 14) hC gf_X11_105 dX11_makeCommit_14 (fy_ta hx0) ?_
    refine x_aload_n (pc := 17) hC dX11_makeCommit_17 rfl ?_
    refine x_aload_n (pc := 18) hC dX11_makeCommit_18 rfl ?_
    refine x_aload (pc := 19) hC dX11_makeCommit_19 rfl ?_
    refine x_callI (pc := 21) hC ci_X11_369 dX11_makeCommit_21 (c_init0 (p := p) (q := q) (r := r) axn_s (fy_tr hx0).2) rfl (by decide) (by omega) (by omega) rfl rfl (Nat.le_of_ble_eq_true rfl) (fun _ _ _ _ _ _ hq => ?_)
    obtain ⟨⟨rfl, rfl, rfl⟩, rfl, rfl, rfl⟩ := hq
    dsimp only [Option.toList, List.nil_append]
    rw [axn_a (show a ≠ z by omega), axn_a (show a + 1 ≠ z by omega)]
    refine x_astore (pc := 24) hC dX11_makeCommit_24 (Nat.le_of_ble_eq_true rfl) ?_
    dsimp only [List.set]
    refine x_goto (pc := 26) hC 79 dX11_makeCommit_26 (by decide) ?_
    have htg : tgK k = 0 := by unfold tgK; simp [*]
    have e9 : ax_n T z 0 = ax_n T z (tgK k) := by rw [htg]
    have ek : k = 2 := by omega
    have em : ∀ x y, mdT 2 x y = mdT k x y := fun x y => by rw [ek]
    rw [e9, em]
    exact tail _ _
set_option maxRecDepth 100000 in
theorem c_makeFirst0 {G : ax_G} {T : Nat → Nat} {N : Nat → Int} {I : Nat → Int → Int} {R : Nat → Int → Option Nat} {z : Nat} {a : Nat} (hz0 : z = a + 182) (hx : fyS G T N R z a) (hn : 0 ≤ I a 2 ∧ I a 2 < 24) : axM G YX11_makeFirstCommit 5 [vR a] T N I R z 1 6 (fun r1 T1 N1 I1 R1 z1 => r1 = some (vR z) ∧ T1 = ax_n T z 5 ∧ N1 = N ∧ I1 = mkI I z a 0 none ∧ ((∀ q, q ≠ a + 3 → R1 q = (ax_u (mkS R z a none (some G.2.2.2.2.1) none) (a + 2) (I a 2) (some z)) q) ∧ ∀ b, 0 ≤ b → b < 4 → R1 (a + 3) b = some z) ∧ z1 = z + 1) := by

  refine ax_enter (by decide) (Nat.le_of_ble_eq_true rfl) (ax_cat rfl) (fun f hC => ?_)
  show axX G f 1 6 _ 0 [vR a, vU, vU] [] T N I R z 1 6
  have b1 := hz0
  have b2 := hz0
  have hmk := c_makeCommit0 hz0 (G := G) (T := T) (N := N) (I := I) (R := R) (z := z) hx (k := 0) (p := none) (q := none) (r := some G.2.2.2.2.1) (by omega) hn
  have t5 : tgK 0 = 5 := rfl
  rw [t5] at hmk
  have hxn : fyS G (ax_n T z 5) N (ax_u (mkS R z a none (some G.2.2.2.2.1) none) (a + 2) (I a 2) (some z)) (z + 1) a := fy_up hx (fun q hq => ⟨axn_a (by omega), rfl⟩) (by rw [axu_row (by omega)]; exact mkS_o (by omega)) (by rw [axu_row (by omega)]; exact mkS_o (by omega)) (fun j _ => by rw [axu_a (by omega), mkS_o (by omega)]) (fun q a1 a2 => by rw [axu_row (by omega)]; exact mkS_o (by omega)) (fun j _ _ => by rw [axu_a (by omega), mkS_o (by omega)]) (fun j _ _ => by rw [axu_a (by omega), mkS_o (by omega)]) (by omega) (fun q hq => by
    by_cases e : q = z
    · omega
    · rw [axn_a e] at hq
      have := fy_tz hx q hq
      omega)
  have loop : ∀ (n : Nat) (x : Int) (S : Nat → Int → Option Nat) (k9 n9 : Nat), (4 - x).toNat ≤ n → 0 ≤ x → x ≤ 4 → (∀ q, q ≠ a + 3 → S q = (ax_u (mkS R z a none (some G.2.2.2.2.1) none) (a + 2) (I a 2) (some z)) q) → (∀ b, 0 ≤ b → b < x → S (a + 3) b = some z) → axX G f 1 6 (fun r1 T1 N1 I1 R1 z1 => r1 = some (vR z) ∧ T1 = ax_n T z 5 ∧ N1 = N ∧ I1 = mkI I z a 0 none ∧ ((∀ q, q ≠ a + 3 → R1 q = (ax_u (mkS R z a none (some G.2.2.2.2.1) none) (a + 2) (I a 2) (some z)) q) ∧ ∀ b, 0 ≤ b → b < 4 → R1 (a + 3) b = some z) ∧ z1 = z + 1) 13 [vR a, vR z, vI x] [] (ax_n T z 5) N (mkI I z a 0 none) S (z + 1) k9 n9 := by
    intro n
    induction n with
    | zero =>
      intro x S k9 n9 hn9 x0 x1 s1 s2
      refine x_iload_n (pc := 13) hC dX11_makeFirstCommit_13 rfl ?_
      refine x_iconst (pc := 14) hC dX11_makeFirstCommit_14 ?_
      refine x_icmp_ge (pc := 15) hC 31 dX11_makeFirstCommit_15 (by decide) (by omega) (by omega) (fun b15 => ?_) (fun b15 => ?_)
      · refine x_aload_n (pc := 31) hC dX11_makeFirstCommit_31 rfl ?_
        refine x_aret (pc := 32) hC rfl (Or.inl ⟨_, rfl⟩) dX11_makeFirstCommit_32 ?_
        exact ⟨rfl, rfl, rfl, rfl, ⟨s1, fun b b0 b1 => s2 b b0 (by omega)⟩, rfl⟩
      · exfalso; omega
    | succ n ih =>
      intro x S k9 n9 hn9 x0 x1 s1 s2
      have hR3 : S a 3 = some (a + 3) := by rw [s1 a (by omega)]; exact (fy_tp hxn).1
      refine x_iload_n (pc := 13) hC dX11_makeFirstCommit_13 rfl ?_
      refine x_iconst (pc := 14) hC dX11_makeFirstCommit_14 ?_
      refine x_icmp_ge (pc := 15) hC 31 dX11_makeFirstCommit_15 (by decide) (by omega) (by omega) (fun b15 => ?_) (fun b15 => ?_)
      · refine x_aload_n (pc := 31) hC dX11_makeFirstCommit_31 rfl ?_
        refine x_aret (pc := 32) hC rfl (Or.inl ⟨_, rfl⟩) dX11_makeFirstCommit_32 ?_
        exact ⟨rfl, rfl, rfl, rfl, ⟨s1, fun b b0 b1 => s2 b b0 (by omega)⟩, rfl⟩
      · refine x_aload_n (pc := 18) hC dX11_makeFirstCommit_18 rfl ?_
        refine x_getO (pc := 19) hC gf_X11_24 dX11_makeFirstCommit_19 (fy_ta hxn) hR3 ?_
        refine x_iload_n (pc := 22) hC dX11_makeFirstCommit_22 rfl ?_
        refine x_aload_n (pc := 23) hC dX11_makeFirstCommit_23 rfl ?_
        refine x_aast (pc := 24) hC axEl_15 dX11_makeFirstCommit_24 (fy_tp hxn).2.1 (by omega) (by rw [(fy_tp hxn).2.2]; omega) (fun v hv => by cases hv; rw [axn_s]; exact axTakes_5 (Or.inr (Or.inr rfl))) ?_
        refine x_iinc (pc := 25) hC dX11_makeFirstCommit_25 rfl ?_
        dsimp only [List.set]
        refine x_goto (pc := 28) hC 13 dX11_makeFirstCommit_28 (by decide) ?_
        refine ih (x + 1) _ k9 n9 (by omega) (by omega) (by omega) (fun q hq => by rw [axu_row hq]; exact s1 q hq) (fun b b0 b1 => ?_)
        by_cases e : b = x
        · rw [e, axu_s]
        · rw [axu_j e]; exact s2 b b0 (by omega)
  refine x_aload_n (pc := 0) hC dX11_makeFirstCommit_0 rfl ?_
  refine x_iconst (pc := 1) hC dX11_makeFirstCommit_1 ?_
  refine x_null (pc := 2) hC dX11_makeFirstCommit_2 ?_
  refine x_nolines0 (pc := 3) hC gs_X11_68 dX11_makeFirstCommit_3 ?_
  refine x_null (pc := 6) hC dX11_makeFirstCommit_6 ?_
  refine x_callV (pc := 7) hC cv_X11_116 dX11_makeFirstCommit_7 hmk (fy_ta hx) rfl (by decide) (by omega) (by omega) rfl rfl (Nat.le_of_ble_eq_true rfl) (fun _ _ _ _ _ _ hq => ?_)
  obtain ⟨rfl, rfl, rfl, rfl, rfl, rfl⟩ := hq
  dsimp only [Option.toList, List.cons_append, List.nil_append]
  refine x_astore_n (pc := 10) hC dX11_makeFirstCommit_10 (Nat.le_of_ble_eq_true rfl) ?_
  dsimp only [List.set]
  refine x_iconst (pc := 11) hC dX11_makeFirstCommit_11 ?_
  refine x_istore_n (pc := 12) hC dX11_makeFirstCommit_12 (Nat.le_of_ble_eq_true rfl) ?_
  dsimp only [List.set]
  exact loop _ 0 _ _ _ (Nat.le_refl _) (by omega) (by omega) (fun _ _ => rfl) (fun b b0 b1 => by omega)

