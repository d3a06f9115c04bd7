/-! THE CLASS: copy; a commit is made -/
def tgK (k : Int) : Nat := if k = 2 then 0 else if k = 1 then 1 else 5
theorem tgK_p (k : Int) : pT (tgK k) := by
  unfold tgK
  split
  · exact Or.inl rfl
  · split
    · exact Or.inr (Or.inl rfl)
    · exact Or.inr (Or.inr rfl)
theorem tgK_k {k : Int} (h : 0 ≤ k ∧ k ≤ 2) : kdT (tgK k) = k := by
  unfold tgK kdT
  by_cases h2 : k = 2
  · rw [if_pos h2]; simp [h2]
  · by_cases h1 : k = 1
    · rw [if_neg h2, if_pos h1]; simp [h1]
    · rw [if_neg h2, if_neg h1]; simp; omega
/-- the numbers and references behind a new commit's making -/
def mkI (I : Nat → Int → Int) (z a : Nat) (k : Int) (q : Option Nat) : Nat → Int → Int := ax_u (ax_u (ax_u (ax_n I z (fun _ => 0)) z 1 (I a 2)) (a + 1) 0 (mdT k (if q = none then -9 else 0) (I (a + 1) 0))) a 2 (I a 2 + 1)
def mkS (R : Nat → Int → Option Nat) (z a : Nat) (p r q : Option Nat) : Nat → Int → Option Nat := ax_u (ax_u (ax_u (ax_u (ax_n R z (fun _ => none)) z 0 (some (a + 1))) z 2 p) z 3 q) z 4 r

set_option maxHeartbeats 4000000 in
set_option maxRecDepth 100000 in
theorem c_makeCommit {G : ax_G} {T : Nat → Nat} {N : Nat → Int} {I : Nat → Int → Int} {R : Nat → Int → Option Nat} {z : Nat} {a o : Nat} (hx : fxS G T N R z a o) {k : Int} {p q r : Option Nat} (hk : 0 ≤ k ∧ k ≤ 2) (hn : 0 ≤ I a 2 ∧ I a 2 < 24) : axM G YX11_makeCommit 4 [vR a, vI k, vO p, vO r, vO q] T N I R z 1 6 (fun r1 T1 N1 I1 R1 z1 => r1 = some (vR z) ∧ T1 = ax_n T z (tgK k) ∧ N1 = N ∧ I1 = mkI I z a k q ∧ R1 = ax_u (mkS R z a p r q) (a + 2) (I a 2) (some z) ∧ z1 = z + 1) := by

  refine ax_enter (by decide) (Nat.le_of_ble_eq_true rfl) (ax_cat (by cases p <;> cases q <;> cases r <;> rfl)) (fun f hC => ?_)
  show axX G f 1 6 _ 0 [vR a, vI k, vO p, vO r, vO q, vU] [] T N I R z 1 6
  have b1 := fx_b1 hx
  have b2 := fx_b2 hx
  have tz0 := fx_tz hx
  have hxn : ∀ tg, fxS G (ax_n T z tg) N (ax_n R z (fun _ => none)) (z + 1) a o := fun tg => fx_le hx (fun q hq => axn_a (by omega)) (fun _ _ => rfl) (fun q hq => axn_a (by omega)) (by omega) (fun q hq => by
    by_cases e : q = z
    · omega
    · rw [axn_a e] at hq
      have := tz0 q hq
      omega)
  have hx0 := hxn 0
  have hx1 := hxn 1
  have hx5 := hxn 5
  have hxt : fxS G (ax_n T z (tgK k)) N (mkS R z a p r q) (z + 1) a o := fx_up (hxn (tgK k)) (fun _ _ => ⟨rfl, rfl⟩) (by unfold mkS; rw [axu_row (by omega), axu_row (by omega), axu_row (by omega), axu_row (by omega)]) (by unfold mkS; rw [axu_row (by omega), axu_row (by omega), axu_row (by omega), axu_row (by omega)]) (fun j _ => by unfold mkS; rw [axu_a (by omega), axu_a (by omega), axu_a (by omega), axu_a (by omega)]) (fun q a1 a2 => by unfold mkS; rw [axu_row (by omega), axu_row (by omega), axu_row (by omega), axu_row (by omega)]) (fun j _ _ => by unfold mkS; rw [axu_a (by omega), axu_a (by omega), axu_a (by omega), axu_a (by omega)]) (fun j _ _ => by unfold mkS; rw [axu_a (by omega), axu_a (by omega), axu_a (by omega), axu_a (by omega)]) (Nat.le_refl _) (fx_tz (hxn (tgK k)))
  have e2 : (ax_u (ax_u (ax_n I z (fun _ => 0)) z 1 (I a 2)) (a + 1) 0 (mdT k (if q = none then -9 else 0) (I (a + 1) 0))) a 2 = I a 2 := by rw [axu_a (by omega), axu_a (by omega), axn_a (by omega)]
  have tail : ∀ (k9 n9 : Nat), axX G f 1 6 (fun r1 T1 N1 I1 R1 z1 => r1 = some (vR z) ∧ T1 = ax_n T z (tgK k) ∧ N1 = N ∧ I1 = mkI I z a k q ∧ R1 = ax_u (mkS R z a p r q) (a + 2) (I a 2) (some z) ∧ z1 = z + 1) 79 [vR a, vI k, vO p, vO r, vO q, vR z] [] (ax_n T z (tgK k)) N (ax_u (ax_u (ax_n I z (fun _ => 0)) z 1 (I a 2)) (a + 1) 0 (mdT k (if q = none then -9 else 0) (I (a + 1) 0))) (mkS R z a p r q) (z + 1) k9 n9 := by
    intro k9 n9
    refine x_aload_n (pc := 79) hC dX11_makeCommit_79 rfl ?_
    refine x_getI (pc := 80) hC gf_X11_105 dX11_makeCommit_80 (fx_ta hxt) ?_
    refine x_bipush (pc := 83) hC dX11_makeCommit_83 (by decide) ?_
    rw [e2]
    refine x_icmp_ge (pc := 85) hC 109 dX11_makeCommit_85 (by decide) (by omega) (by omega) (fun b85 => ?_) (fun b85 => ?_)
    · refine x_aload (pc := 109) hC dX11_makeCommit_109 rfl ?_
      refine x_aret (pc := 111) hC rfl (Or.inl ⟨_, rfl⟩) dX11_makeCommit_111 ?_
      first
      | exact ⟨rfl, rfl, rfl, rfl, rfl, rfl⟩
      | (exfalso; omega)
    · refine x_aload_n (pc := 88) hC dX11_makeCommit_88 rfl ?_
      refine x_getO (pc := 89) hC gf_X11_20 dX11_makeCommit_89 (fx_ta hxt) (fx_cm hxt).1 ?_
      refine x_aload_n (pc := 92) hC dX11_makeCommit_92 rfl ?_
      refine x_getI (pc := 93) hC gf_X11_105 dX11_makeCommit_93 (fx_ta hxt) ?_
      refine x_aload (pc := 96) hC dX11_makeCommit_96 rfl ?_
      rw [e2]
      refine x_aast (pc := 98) hC axEl_15 dX11_makeCommit_98 (fx_cm hxt).2.1 (by omega) (by rw [(fx_cm hxt).2.2]; omega) (fun v hv => by cases hv; rw [axn_s]; exact axTakes_5 (tgK_p k)) ?_
      refine x_aload_n (pc := 99) hC dX11_makeCommit_99 rfl ?_
      refine x_dup (pc := 100) hC dX11_makeCommit_100 rfl ?_
      refine x_getI (pc := 101) hC gf_X11_105 dX11_makeCommit_101 (fx_ta hxt) ?_
      rw [e2]
      refine x_iconst (pc := 104) hC dX11_makeCommit_104 ?_
      refine x_iadd (pc := 105) hC dX11_makeCommit_105 ?_
      refine x_putI (pc := 106) hC pf_X11_105 dX11_makeCommit_106 (fx_ta hxt) (by decide) ?_
      refine x_aload (pc := 109) hC dX11_makeCommit_109 rfl ?_
      refine x_aret (pc := 111) hC rfl (Or.inl ⟨_, rfl⟩) dX11_makeCommit_111 ?_
      first
      | exact ⟨rfl, rfl, rfl, rfl, rfl, rfl⟩
      | (exfalso; omega)
  refine x_iload_n (pc := 0) hC dX11_makeCommit_0 rfl ?_
  refine x_iconst (pc := 1) hC dX11_makeCommit_1 ?_
  refine x_icmp_ne (pc := 2) hC 29 dX11_makeCommit_2 (by decide) (by omega) (by omega) (fun b2 => ?_) (fun b2 => ?_)
  · refine x_iload_n (pc := 29) hC dX11_makeCommit_29 rfl ?_
    refine x_iconst (pc := 30) hC dX11_makeCommit_30 ?_
    refine x_icmp_ne (pc := 31) hC 58 dX11_makeCommit_31 (by decide) (by omega) (by omega) (fun b31 => ?_) (fun b31 => ?_)
    · refine x_new (pc := 58) hC nw_X11_18 dX11_makeCommit_58 (by omega) (by omega) ?_
      refine x_dup (pc := 61) hC dX11_makeCommit_61 rfl ?_
      refine x_aload_n (pc := 62) hC dX11_makeCommit_62 rfl ?_
      refine x_getO (pc := 63) hC gf_X11_14 dX11_makeCommit_63 (fx_ta hx5) (fx_tr hx5).1 ?_
      refine x_aload_n (pc := 66) hC dX11_makeCommit_66 rfl ?_
      refine x_getI (pc := 67) hC gf_X11_105 dX11_makeCommit_67 (fx_ta hx5) ?_
      refine x_aload_n (pc := 70) hC dX11_makeCommit_70 rfl ?_
      refine x_aload_n (pc := 71) hC dX11_makeCommit_71 rfl ?_
      refine x_aload (pc := 72) hC dX11_makeCommit_72 rfl ?_
      refine x_callI (pc := 74) hC ci_X11_71 dX11_makeCommit_74 (c_init5 (p := p) (q := q) (r := r) (Or.inr (Or.inr axn_s)) (fx_tr hx5).2) rfl (by decide) (by omega) (by omega) rfl rfl (Nat.le_of_ble_eq_true rfl) (fun _ _ _ _ _ _ hq => ?_)
      obtain ⟨⟨rfl, rfl, rfl⟩, rfl, rfl, rfl⟩ := hq
      dsimp only [Option.toList, List.nil_append]
      rw [axn_a (show a ≠ z by omega), axn_a (show a + 1 ≠ z by omega)]
      refine x_astore (pc := 77) hC dX11_makeCommit_77 (Nat.le_of_ble_eq_true rfl) ?_
      dsimp only [List.set]
      have htg : tgK k = 5 := by unfold tgK; simp [*]
      have e9 : ax_n T z 5 = ax_n T z (tgK k) := by rw [htg]
      have ek : k = 0 := by omega
      have em : ∀ x y, mdT 0 x y = mdT k x y := fun x y => by rw [ek]
      rw [e9, em]
      exact tail _ _
    · refine x_new (pc := 34) hC nw_X11_370 dX11_makeCommit_34 (by omega) (by omega) ?_
      refine x_dup (pc := 37) hC dX11_makeCommit_37 rfl ?_
      refine x_aload_n (pc := 38) hC dX11_makeCommit_38 rfl ?_
      refine x_getO (pc := 39) hC gf_X11_14 dX11_makeCommit_39 (fx_ta hx1) (fx_tr hx1).1 ?_
      refine x_aload_n (pc := 42) hC dX11_makeCommit_42 rfl ?_
      refine x_getI (pc := 43) hC gf_X11_105 dX11_makeCommit_43 (fx_ta hx1) ?_
      refine x_aload_n (pc := 46) hC dX11_makeCommit_46 rfl ?_
      refine x_aload_n (pc := 47) hC dX11_makeCommit_47 rfl ?_
      refine x_aload (pc := 48) hC dX11_makeCommit_48 rfl ?_
      refine x_callI (pc := 50) hC ci_X11_372 dX11_makeCommit_50 (c_init1 (p := p) (q := q) (r := r) (Or.inl axn_s) (fx_tr hx1).2) rfl (by decide) (by omega) (by omega) rfl rfl (Nat.le_of_ble_eq_true rfl) (fun _ _ _ _ _ _ hq => ?_)
      obtain ⟨⟨rfl, rfl, rfl⟩, rfl, rfl, rfl⟩ := hq
      dsimp only [Option.toList, List.nil_append]
      rw [axn_a (show a ≠ z by omega), axn_a (show a + 1 ≠ z by omega)]
      refine x_astore (pc := 53) hC dX11_makeCommit_53 (Nat.le_of_ble_eq_true rfl) ?_
      dsimp only [List.set]
      refine x_goto (pc := 55) hC 79 dX11_makeCommit_55 (by decide) ?_
      have htg : tgK k = 1 := by unfold tgK; simp [*]
      have e9 : ax_n T z 1 = ax_n T z (tgK k) := by rw [htg]
      have ek : k = 1 := by omega
      have em : ∀ x y, mdT 1 x y = mdT k x y := fun x y => by rw [ek]
      rw [e9, em]
      exact tail _ _
  · refine x_new (pc := 5) hC nw_X11_367 dX11_makeCommit_5 (by omega) (by omega) ?_
    refine x_dup (pc := 8) hC dX11_makeCommit_8 rfl ?_
    refine x_aload_n (pc := 9) hC dX11_makeCommit_9 rfl ?_
    refine x_getO (pc := 10) hC gf_X11_14 dX11_makeCommit_10 (fx_ta hx0) (fx_tr hx0).1 ?_
    refine x_aload_n (pc := 13) hC dX11_makeCommit_13 rfl ?_
    refine x_getI (pc := 14) hC gf_X11_105 dX11_makeCommit_14 (fx_ta hx0) ?_
    refine x_aload_n (pc := 17) hC dX11_makeCommit_17 rfl ?_
    refine x_aload_n (pc := 18) hC dX11_makeCommit_18 rfl ?_
    refine x_aload (pc := 19) hC dX11_makeCommit_19 rfl ?_
    refine x_callI (pc := 21) hC ci_X11_369 dX11_makeCommit_21 (c_init0 (p := p) (q := q) (r := r) axn_s (fx_tr hx0).2) rfl (by decide) (by omega) (by omega) rfl rfl (Nat.le_of_ble_eq_true rfl) (fun _ _ _ _ _ _ hq => ?_)
    obtain ⟨⟨rfl, rfl, rfl⟩, rfl, rfl, rfl⟩ := hq
    dsimp only [Option.toList, List.nil_append]
    rw [axn_a (show a ≠ z by omega), axn_a (show a + 1 ≠ z by omega)]
    refine x_astore (pc := 24) hC dX11_makeCommit_24 (Nat.le_of_ble_eq_true rfl) ?_
    dsimp only [List.set]
    refine x_goto (pc := 26) hC 79 dX11_makeCommit_26 (by decide) ?_
    have htg : tgK k = 0 := by unfold tgK; simp [*]
    have e9 : ax_n T z 0 = ax_n T z (tgK k) := by rw [htg]
    have ek : k = 2 := by omega
    have em : ∀ x y, mdT 2 x y = mdT k x y := fun x y => by rw [ek]
    rw [e9, em]
    exact tail _ _

