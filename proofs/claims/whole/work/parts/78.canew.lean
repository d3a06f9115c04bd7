/-! THE CLASS: anew -/
theorem md_id {σ : Nat → Int → Int} {o : Nat} {k p g : Int} {F : Int → Int} : mdI σ o k p g = ax_f (ax_u (mdI σ o k p g) (o + 6) (σ o 2) 0) (o + 5) (16 * σ o 2) 0 F := by
  funext q j
  rw [axf_out (by omega)]
  by_cases hq : q = o + 6 ∧ j = σ o 2
  · rw [hq.1, hq.2, axu_s]
    unfold mdI
    rw [axu_a (by omega), axu_s]
  · unfold ax_u
    rw [if_neg hq]

set_option maxHeartbeats 4000000 in
set_option maxRecDepth 100000 in
theorem c_makeFirst {G : ax_G} {T : Nat → Nat} {N : Nat → Int} {I : Nat → Int → Int} {R : Nat → Int → Option Nat} {z : Nat} {a o : Nat} (hx : fxS G T N R z a o) (hn : 0 ≤ I a 2 ∧ I a 2 < 24) : axM G YX11_makeFirstCommit 5 [vR a] T N I R z 1 6 (fun r1 T1 N1 I1 R1 z1 => r1 = some (vR z) ∧ T1 = ax_n T z 5 ∧ N1 = N ∧ I1 = mkI I z a 0 none ∧ ((∀ q, q ≠ a + 3 → R1 q = (ax_u (mkS R z a none (some G.2.2.2.2.1) none) (a + 2) (I a 2) (some z)) q) ∧ ∀ b, 0 ≤ b → b < 4 → R1 (a + 3) b = some z) ∧ z1 = z + 1) := by

  refine ax_enter (by decide) (Nat.le_of_ble_eq_true rfl) (ax_cat rfl) (fun f hC => ?_)
  show axX G f 1 6 _ 0 [vR a, vU, vU] [] T N I R z 1 6
  have b1 := fx_b1 hx
  have b2 := fx_b2 hx
  have hmk := c_makeCommit (G := G) (T := T) (N := N) (I := I) (R := R) (z := z) hx (k := 0) (p := none) (q := none) (r := some G.2.2.2.2.1) (by omega) hn
  have t5 : tgK 0 = 5 := rfl
  rw [t5] at hmk
  have hxn : fxS G (ax_n T z 5) N (ax_u (mkS R z a none (some G.2.2.2.2.1) none) (a + 2) (I a 2) (some z)) (z + 1) a o := fx_up hx (fun q hq => ⟨axn_a (by omega), rfl⟩) (by rw [axu_row (by omega)]; exact mkS_o (by omega)) (by rw [axu_row (by omega)]; exact mkS_o (by omega)) (fun j _ => by rw [axu_a (by omega), mkS_o (by omega)]) (fun q a1 a2 => by rw [axu_row (by omega)]; exact mkS_o (by omega)) (fun j _ _ => by rw [axu_a (by omega), mkS_o (by omega)]) (fun j _ _ => by rw [axu_a (by omega), mkS_o (by omega)]) (by omega) (fun q hq => by
    by_cases e : q = z
    · omega
    · rw [axn_a e] at hq
      have := fx_tz hx q hq
      omega)
  have loop : ∀ (n : Nat) (x : Int) (S : Nat → Int → Option Nat) (k9 n9 : Nat), (4 - x).toNat ≤ n → 0 ≤ x → x ≤ 4 → (∀ q, q ≠ a + 3 → S q = (ax_u (mkS R z a none (some G.2.2.2.2.1) none) (a + 2) (I a 2) (some z)) q) → (∀ b, 0 ≤ b → b < x → S (a + 3) b = some z) → axX G f 1 6 (fun r1 T1 N1 I1 R1 z1 => r1 = some (vR z) ∧ T1 = ax_n T z 5 ∧ N1 = N ∧ I1 = mkI I z a 0 none ∧ ((∀ q, q ≠ a + 3 → R1 q = (ax_u (mkS R z a none (some G.2.2.2.2.1) none) (a + 2) (I a 2) (some z)) q) ∧ ∀ b, 0 ≤ b → b < 4 → R1 (a + 3) b = some z) ∧ z1 = z + 1) 13 [vR a, vR z, vI x] [] (ax_n T z 5) N (mkI I z a 0 none) S (z + 1) k9 n9 := by
    intro n
    induction n with
    | zero =>
      intro x S k9 n9 hn9 x0 x1 s1 s2
      refine x_iload_n (pc := 13) hC dX11_makeFirstCommit_13 rfl ?_
      refine x_iconst (pc := 14) hC dX11_makeFirstCommit_14 ?_
      refine x_icmp_ge (pc := 15) hC 31 dX11_makeFirstCommit_15 (by decide) (by omega) (by omega) (fun b15 => ?_) (fun b15 => ?_)
      · refine x_aload_n (pc := 31) hC dX11_makeFirstCommit_31 rfl ?_
        refine x_aret (pc := 32) hC rfl (Or.inl ⟨_, rfl⟩) dX11_makeFirstCommit_32 ?_
        exact ⟨rfl, rfl, rfl, rfl, ⟨s1, fun b b0 b1 => s2 b b0 (by omega)⟩, rfl⟩
      · exfalso; omega
    | succ n ih =>
      intro x S k9 n9 hn9 x0 x1 s1 s2
      have hR3 : S a 3 = some (a + 3) := by rw [s1 a (by omega)]; exact (fx_tp hxn).1
      refine x_iload_n (pc := 13) hC dX11_makeFirstCommit_13 rfl ?_
      refine x_iconst (pc := 14) hC dX11_makeFirstCommit_14 ?_
      refine x_icmp_ge (pc := 15) hC 31 dX11_makeFirstCommit_15 (by decide) (by omega) (by omega) (fun b15 => ?_) (fun b15 => ?_)
      · refine x_aload_n (pc := 31) hC dX11_makeFirstCommit_31 rfl ?_
        refine x_aret (pc := 32) hC rfl (Or.inl ⟨_, rfl⟩) dX11_makeFirstCommit_32 ?_
        exact ⟨rfl, rfl, rfl, rfl, ⟨s1, fun b b0 b1 => s2 b b0 (by omega)⟩, rfl⟩
      · refine x_aload_n (pc := 18) hC dX11_makeFirstCommit_18 rfl ?_
        refine x_getO (pc := 19) hC gf_X11_24 dX11_makeFirstCommit_19 (fx_ta hxn) hR3 ?_
        refine x_iload_n (pc := 22) hC dX11_makeFirstCommit_22 rfl ?_
        refine x_aload_n (pc := 23) hC dX11_makeFirstCommit_23 rfl ?_
        refine x_aast (pc := 24) hC axEl_15 dX11_makeFirstCommit_24 (fx_tp hxn).2.1 (by omega) (by rw [(fx_tp hxn).2.2]; omega) (fun v hv => by cases hv; rw [axn_s]; exact axTakes_5 (Or.inr (Or.inr rfl))) ?_
        refine x_iinc (pc := 25) hC dX11_makeFirstCommit_25 rfl ?_
        dsimp only [List.set]
        refine x_goto (pc := 28) hC 13 dX11_makeFirstCommit_28 (by decide) ?_
        refine ih (x + 1) _ k9 n9 (by omega) (by omega) (by omega) (fun q hq => by rw [axu_row hq]; exact s1 q hq) (fun b b0 b1 => ?_)
        by_cases e : b = x
        · rw [e, axu_s]
        · rw [axu_j e]; exact s2 b b0 (by omega)
  refine x_aload_n (pc := 0) hC dX11_makeFirstCommit_0 rfl ?_
  refine x_iconst (pc := 1) hC dX11_makeFirstCommit_1 ?_
  refine x_null (pc := 2) hC dX11_makeFirstCommit_2 ?_
  refine x_nolines0 (pc := 3) hC gs_X11_68 dX11_makeFirstCommit_3 ?_
  refine x_null (pc := 6) hC dX11_makeFirstCommit_6 ?_
  refine x_callV (pc := 7) hC cv_X11_116 dX11_makeFirstCommit_7 hmk (fx_ta hx) rfl (by decide) (by omega) (by omega) rfl rfl (Nat.le_of_ble_eq_true rfl) (fun _ _ _ _ _ _ hq => ?_)
  obtain ⟨rfl, rfl, rfl, rfl, rfl, rfl⟩ := hq
  dsimp only [Option.toList, List.cons_append, List.nil_append]
  refine x_astore_n (pc := 10) hC dX11_makeFirstCommit_10 (Nat.le_of_ble_eq_true rfl) ?_
  dsimp only [List.set]
  refine x_iconst (pc := 11) hC dX11_makeFirstCommit_11 ?_
  refine x_istore_n (pc := 12) hC dX11_makeFirstCommit_12 (Nat.le_of_ble_eq_true rfl) ?_
  dsimp only [List.set]
  exact loop _ 0 _ _ _ (Nat.le_refl _) (by omega) (by omega) (fun _ _ => rfl) (fun b b0 b1 => by omega)

set_option maxHeartbeats 4000000 in
set_option maxRecDepth 100000 in
theorem c_anew {G : ax_G} {T : Nat → Nat} {N : Nat → Int} {I : Nat → Int → Int} {R : Nat → Int → Option Nat} {z a o : Nat} {σ : Nat → Int → Int} {A w : Int → Nat} (h : RelA G T N I R z a o σ A w) (hI : miC σ o) (hMS : miS σ o) (hS : rpS σ o) : axM G YX11_anew 6 [vR a] T N I R z 1 6 (rPX G T N I R z a o (vI (an σ o).1) (an σ o).2) := by
  refine ax_enter (by decide) (Nat.le_of_ble_eq_true rfl) (ax_cat rfl) (fun f hC => ?_)
  show axX G f 1 6 _ 0 [vR a, vU] [] T N I R z 1 6
  have hx := rl_fx h
  have b0 := fx_b0 hx
  have b1 := fx_b1 hx
  have b2 := fx_b2 hx
  have hn := rl_n h
  have hC1 := hI.1
  have h8 := rl_st h
  have hs2 := hS.1
  have nl := fx_nl hx
  have hu := c_isUnderWay (G := G) (I := I) hx (by rw [h8]; constructor <;> omega)
  unfold an
  by_cases h40 : σ o 40 = 0
  · rw [if_pos h40]
    rw [bI_f (show ¬ (I (a + 183) 8 ≠ 0) by rw [h8, h40]; decide)] at hu
    refine x_aload_n (pc := 0) hC dX11_anew_0 rfl ?_
    refine x_mV (pc := 1) hC cv_X11_89 dX11_anew_1 hu (fx_ta hx) rfl (by decide) rfl rfl (Nat.le_of_ble_eq_true rfl) ?_
    dsimp only [Option.toList, List.cons_append, List.nil_append]
    refine x_if_eq (pc := 4) hC 10 dX11_anew_4 (by decide) (by decide) (fun _ => ?_) (fun h => absurd rfl h)
    refine x_aload_n (pc := 10) hC dX11_anew_10 rfl ?_
    refine x_getI (pc := 11) hC gf_X11_105 dX11_anew_11 (fx_ta hx) ?_
    refine x_istore_n (pc := 14) hC dX11_anew_14 (Nat.le_of_ble_eq_true rfl) ?_
    dsimp only [List.set]
    refine x_aload_n (pc := 15) hC dX11_anew_15 rfl ?_
    refine x_iconst (pc := 16) hC dX11_anew_16 ?_
    refine x_rV (pc := 17) hC cv_X11_203 dX11_anew_17 (c_drop h (by omega) (f := 0) (by omega)) (fx_ta hx) rfl (by decide) rfl rfl (Nat.le_of_ble_eq_true rfl) ?_
    rintro v9 I5 S5 ⟨rfl, ⟨J, dJ, rfl⟩, p1, p2⟩
    dsimp only [Option.toList, List.nil_append]
    have hx1 : fxS G T N S5 z a o := fx_up hx (fun _ _ => ⟨rfl, rfl⟩) (p1 a (by omega)) (p1 _ (by omega)) (fun k _ => by rw [p1 (a + 5) (by omega)]) (fun q a1 a2 => p1 q (by omega)) (fun k _ _ => by rw [p1 (a + 183) (by omega)]) (fun k _ _ => by rw [p1 (a + 189) (by omega)]) (Nat.le_refl _) (fx_tz hx)
    refine x_aload_n (pc := 20) hC dX11_anew_20 rfl ?_
    refine x_getO (pc := 21) hC gf_X11_36 dX11_anew_21 (fx_ta hx) (fx_mg hx1).1 ?_
    refine x_iconst (pc := 24) hC dX11_anew_24 ?_
    refine x_putI (pc := 25) hC pf_X11_207 dX11_anew_25 (fx_mg hx1).2.1 (by decide) ?_
    refine x_aload_n (pc := 28) hC dX11_anew_28 rfl ?_
    refine x_getO (pc := 29) hC gf_X11_64 dX11_anew_29 (fx_ta hx) (fx_cu hx1).1 ?_
    refine x_getO (pc := 32) hC gf_X11_210 dX11_anew_32 (fx_cu hx1).2.1.1 (fx_cu hx1).2.1.2.2.2.1.1 ?_
    refine x_iconst (pc := 35) hC dX11_anew_35 ?_
    refine x_mSx (pc := 36) hC cs_X11_213 dX11_anew_36 (c_fill (r := a + 184 + 2) (fx_cu hx1).2.1.2.2.2.1.2.1 (by rw [(fx_cu hx1).2.1.2.2.2.1.2.2]; omega)) rfl (by decide) rfl rfl (Nat.le_of_ble_eq_true rfl) ?_
    rintro v9 I7 ⟨rfl, f1, f2⟩
    dsimp only [Option.toList, List.nil_append]
    rw [(fx_cu hx1).2.1.2.2.2.1.2.2] at f2
    have i7 : ∀ q, q ≠ a → q ≠ a + 5 → q ≠ a + 184 + 2 → I7 q = J q := fun q e1 e2 e3 => by rw [f1 q e3, axu_row e2, axu_row e1]
    have hnA : ∀ q, q < a + 182 → ∀ c, 0 ≤ c → c < σ o 2 → q ≠ A c := fun q hq c c0 c1 e => by have := (rl_cc h c c0 c1).2.2.2.2.2.2.1; omega
    have ja : J a = I a := dJ.2 a (hnA a (by omega))
    have i7a : ∀ j, j ≠ 2 → I7 a j = I a j := fun j hj => by rw [f1 a (by omega), axu_a (by omega), axu_j hj, ja]
    have i72 : I7 a 2 = 0 := by rw [f1 a (by omega), axu_a (by omega), axu_s]
    have j183 : J (a + 183) 8 = I (a + 183) 8 := drI_j dJ _ (by decide)
    obtain ⟨Z, hZ⟩ : ∃ Z, Z = (ax_f (ax_f (ax_u (ax_u σ o 2 0) o 30 0) (o + 29) 0 4 (fun _ => 0)) (o + 7) 0 4 (fun b => 100 + b)) := ⟨_, rfl⟩
    have zo : ∀ j, j ≠ 2 → j ≠ 30 → Z o j = σ o j := fun j e1 e2 => by rw [hZ, axf_a (by omega), axf_a (by omega), axu_j e2, axu_j e1]
    have z2 : Z o 2 = 0 := by rw [hZ, axf_a (by omega), axf_a (by omega), axu_j (by decide), axu_s]
    have z30 : Z o 30 = 0 := by rw [hZ, axf_a (by omega), axf_a (by omega), axu_s]
    have zq : ∀ q, q ≠ o → q ≠ o + 7 → q ≠ o + 29 → Z q = σ q := fun q e1 e2 e3 => by funext j; rw [hZ, axf_a e2, axf_a e3, axu_a e1, axu_a e1]
    have z7 : ∀ b, 0 ≤ b → b < 4 → Z (o + 7) b = 100 + b := fun b e0 e1 => by rw [hZ, axf_in (by omega) (by omega)]
    have z29 : ∀ b, 0 ≤ b → b < 4 → Z (o + 29) b = 0 := fun b e0 e1 => by rw [hZ, axf_a (by omega), axf_in (by omega) (by omega)]
    have hrz : rsL Z o = [] := by unfold rsL; rw [z30]; rfl
    have hZ1 : RelA G T N I7 S5 z a o Z (fun c => A (σ (o + 7) (c - 100))) w := rl_ab h hMS (f := 0) (by omega) dJ (fun c c0 c1 => by omega) (fun q e1 e2 e3 e4 => i7 q e1 e2 (by omega)) i7a i72 (by rw [i7 _ (by omega) (by omega) (by omega), j183, h8]; exact h40) (fun q e1 e2 => p1 q e1) (fun j hj => p2 j hj) z2 (by rw [zo 40 (by decide) (by decide)]; exact h40) ⟨zo 0 (by decide) (by decide), zo 1 (by decide) (by decide)⟩ (fun q e1 e2 e3 => zq q e1 e2 (by omega)) (fun b e0 e1 => by rw [z7 b e0 e1, show 100 + b - 100 = b by omega]; exact rl_tp h b e0 e1) ⟨by rw [hrz, f1 (a + 5) (by omega), axu_s]; rfl, by rw [hrz]; decide, fun k p hp => by rw [hrz] at hp; simp at hp⟩ (fun j v a1 a2 hv => by rw [p1 (a + 6) (by omega)] at hv; exact (rl_r7 h).1 j v a1 a2 hv) (fun k e0 e1 => (f2 k e0 e1).trans (z29 k e0 e1).symm)
    have hMZ : miS Z o := by
      unfold miS at *
      rw [zq (o + 31) (by omega) (by omega) (by omega), zq (o + 32) (by omega) (by omega) (by omega), zq (o + 33) (by omega) (by omega) (by omega), zq (o + 34) (by omega) (by omega) (by omega), zq (o + 35) (by omega) (by omega) (by omega), zq (o + 36) (by omega) (by omega) (by omega), zq (o + 4) (by omega) (by omega) (by omega), zo 3 (by decide) (by decide)]
      exact hMS
    refine x_aload_n (pc := 39) hC dX11_anew_39 rfl ?_
    refine x_callV (pc := 40) hC cv_X11_55 dX11_anew_40 (c_makeFirst hx1 (by omega)) (fx_ta hx) rfl (by decide) (by omega) (by omega) rfl rfl (Nat.le_of_ble_eq_true rfl) (fun _ _ _ _ _ _ hq => ?_)
    obtain ⟨rfl, rfl, rfl, rfl, ⟨w1, w2⟩, rfl⟩ := hq
    dsimp only [Option.toList, List.cons_append, List.nil_append]
    refine x_pop (pc := 43) hC dX11_anew_43 rfl ?_
    refine x_iload_n (pc := 44) hC dX11_anew_44 rfl ?_
    refine x_iret (pc := 45) hC rfl dX11_anew_45 ?_
    rw [hn]
    obtain ⟨Y, hY⟩ : ∃ Y, Y = anI σ o := ⟨_, rfl⟩
    rw [← hY]
    have hl9 : ∀ c, 0 ≤ ax_u σ o 2 0 (o + 6) c ∧ ax_u σ o 2 0 (o + 6) c ≤ 16 := fun c => by rw [axu_a (by omega)]; exact hI.2.1.2 c
    have m0 : ax_u σ o 2 0 o 2 = 0 := axu_s
    have hmd := md_x (σ := ax_u σ o 2 0) (o := o) (k := 0) (p := -9) (g := -9) (n := 0) (F := fun _ => 0) hl9 (by omega) (X := mdI (ax_u σ o 2 0) o 0 (-9) (-9)) md_id
    rw [m0, axu_j (show (1 : Int) ≠ 2 by decide), axu_j (show (3 : Int) ≠ 2 by decide)] at hmd
    obtain ⟨⟨q1, q2, q3, q4⟩, ⟨q5, q6, q7, q8, q9, q10⟩, q11, q12, q13⟩ := hmd
    have yo : ∀ j, j ≠ 30 → Y o j = mdI (ax_u σ o 2 0) o 0 (-9) (-9) o j := fun j hj => by rw [hY]; unfold anI; rw [axf_a (by omega), axu_j hj, axf_a (by omega)]
    have y30 : Y o 30 = 0 := by rw [hY]; unfold anI; rw [axf_a (by omega), axu_s]
    have yq : ∀ q, q ≠ o → q ≠ o + 7 → q ≠ o + 29 → Y q = mdI (ax_u σ o 2 0) o 0 (-9) (-9) q := fun q e1 e2 e3 => by funext j; rw [hY]; unfold anI; rw [axf_a e3, axu_a e1, axf_a e2]
    have y7 : ∀ b, 0 ≤ b → b < 4 → Y (o + 7) b = 0 := fun b e0 e1 => by rw [hY]; unfold anI; rw [axf_a (by omega), axu_a (by omega), axf_in (by omega) (by omega)]
    have y29 : ∀ b, 0 ≤ b → b < 4 → Y (o + 29) b = 0 := fun b e0 e1 => by rw [hY]; unfold anI; rw [axf_in (by omega) (by omega)]
    have sr : ∀ x c, x ≠ o → ax_u σ o 2 0 x c = σ x c := fun x c hx9 => axu_a hx9
    obtain ⟨X, hX⟩ : ∃ X, X = ax_n Y (o + 7) (Z (o + 7)) := ⟨_, rfl⟩
    have xo : ∀ q, q ≠ o + 7 → X q = Y q := fun q hq => by rw [hX, axn_a hq]
    have x7 : X (o + 7) = Z (o + 7) := by rw [hX, axn_s]
    have hxo : ∀ j, X o j = Y o j := fun j => by rw [xo o (by omega)]
    have xr : ∀ x c, (x = o + 1 ∨ x = o + 2 ∨ x = o + 3 ∨ x = o + 4 ∨ x = o + 6) → c ≠ 0 → X x c = Z x c := fun x c hx9 hc => by
      rw [xo x (by omega), yq x (by omega) (by omega) (by omega), zq x (by omega) (by omega) (by omega)]
      obtain ⟨e1, e2, e3, e4, e5⟩ := q5 c hc
      rw [sr _ _ (by omega)] at e1 e2 e3 e4 e5
      rcases hx9 with rfl | rfl | rfl | rfl | rfl <;> assumption
    have h2 := rl_md (k := 0) (g := -9) (X := X) (r := G.2.2.2.2.1) (p := none) (q := none) (L := []) hZ1 hMZ (by rw [z2]; omega) (by omega) (Or.inl rfl) (by rw [if_pos rfl]) (by rw [z2, if_pos rfl]) ⟨by rw [xo _ (by omega), yq _ (by omega) (by omega) (by omega), q7]; decide, fun x x0 x1 => by rw [z2] at x1; omega⟩ ⟨nl.1.1, by rw [nl.1.2]; omega, fun j j0 j1 => by rw [nl.1.2] at j1; omega⟩ ⟨nl.1.2, seg_nil (Int.le_refl _)⟩ (Or.inl rfl) (fun s hs h9 => by
      have := (rl_ar hZ1 hMZ hs _ h9).2.1.1
      omega) (by rw [hxo, yo 2 (by decide), q1, z2]) (by rw [hxo, yo 1 (by decide), q2, zo 1 (by decide) (by decide)]) (fun j hj => by
      rw [hxo]
      rcases hj with e | e | e
      · rw [e, yo 0 (by decide), q4 0 (by decide) (by decide) (by decide), axu_j (by decide), zo 0 (by decide) (by decide)]
      · rw [e, y30, z30]
      · rw [e, yo 40 (by decide), q4 40 (by decide) (by decide) (by decide), axu_j (by decide), zo 40 (by decide) (by decide)]) (fun c hc => xr _ c (by omega) (by rw [z2] at hc; exact hc)) (by rw [z2, xo _ (by omega), yq _ (by omega) (by omega) (by omega), q6]) (fun c hc => xr _ c (by omega) (by rw [z2] at hc; exact hc)) (fun c hc => xr _ c (by omega) (by rw [z2] at hc; exact hc)) (by rw [z2, xo _ (by omega), yq _ (by omega) (by omega) (by omega), q8]) (fun c hc => xr _ c (by omega) (by rw [z2] at hc; exact hc)) (by rw [z2, xo _ (by omega), yq _ (by omega) (by omega) (by omega), q9, zo 3 (by decide) (by decide)]) (fun c hc => xr _ c (by omega) (by rw [z2] at hc; exact hc)) (by rw [z2, xo _ (by omega), yq _ (by omega) (by omega) (by omega), q10]; rfl) (fun c c0 c1 => by rw [z2] at c1; omega) (by
        unfold rowL
        rw [z2, xo (o + 6) (by omega), yq _ (by omega) (by omega) (by omega), q10]
        exact seg_nil (Int.le_refl _)) (fun x hx9 hx8 => by
        by_cases e : x = o + 7
        · rw [e, x7]
        · rw [xo x e, yq x (by omega) e hx8, q13 x hx9, axu_row (by omega), zq x (by omega) e hx8]) (fun b e0 e1 => by rw [z7 b e0 e1, z2]; omega) (fun j e0 e1 => by rw [xo _ (by omega), y29 j e0 e1, z29 j e0 e1]) (fun h9 => absurd (by rw [hxo, yo 40 (by decide), q4 40 (by decide) (by decide) (by decide), axu_j (by decide)]; exact h40) h9)
    rw [show tgK 0 = 5 from rfl] at h2
    refine ⟨rfl, ?_, by omega, _, _, rl_gen h2 (fun _ _ _ _ => rfl) (fun _ _ => rfl) (by rw [← hxo]; exact rl_f h2) (by rw [← hxo]; exact rl_t h2) (fun q e1 e2 => w1 q e1) (fun k _ _ _ => (hxo k).symm) (fun q e1 e2 _ => (xo q e2).symm) (fun b e0 e1 => ?_) ⟨?_, ?_, fun k p hp => ?_⟩ (fun j v a1 a2 hv => ?_) (fun h9 => absurd (by rw [hxo, yo 40 (by decide), q4 40 (by decide) (by decide) (by decide), axu_j (by decide)]; exact h40) h9)⟩
    · intro q hq
      have hqA : ∀ c, 0 ≤ c → c < σ o 2 → q ≠ A c := fun c c0 c1 e => by have := (rl_cc h c c0 c1).2.2.2.2.2.2.1; omega
      refine ⟨axn_a (by omega), rfl, ?_, ?_⟩
      · rw [mkI_o (by omega) (by omega) (by omega), i7 q (by omega) (by omega) (by omega)]
        exact dJ.2 q hqA
      · rw [w1 q (by omega), axu_row (by omega), mkS_o (by omega)]
        exact p1 q (by omega)
    · rw [w2 b e0 e1, y7 b e0 e1, z2, if_pos rfl]
    · have e : rsL Y o = rsL X o := by unfold rsL; rw [y30, hxo, y30]; rfl
      rw [e]; exact (rl_rs h2).1
    · have e : rsL Y o = [] := by unfold rsL; rw [y30]; rfl
      rw [e]; decide
    · have e : rsL Y o = [] := by unfold rsL; rw [y30]; rfl
      rw [e] at hp; simp at hp
    · rw [w1 (a + 6) (by omega)] at hv
      exact (rl_r7 h2).1 j v a1 a2 hv
  · rw [if_neg h40]
    rw [bI_t (show I (a + 183) 8 ≠ 0 by rw [h8]; exact h40)] at hu
    refine x_aload_n (pc := 0) hC dX11_anew_0 rfl ?_
    refine x_mV (pc := 1) hC cv_X11_89 dX11_anew_1 hu (fx_ta hx) rfl (by decide) rfl rfl (Nat.le_of_ble_eq_true rfl) ?_
    dsimp only [Option.toList, List.cons_append, List.nil_append]
    refine x_if_eq (pc := 4) hC 10 dX11_anew_4 (by decide) (by decide) (fun h => absurd h (by decide)) (fun _ => ?_)
    refine x_bipush (pc := 7) hC dX11_anew_7 (by decide) ?_
    refine x_iret (pc := 9) hC rfl dX11_anew_9 ?_
    exact rl_p0 h

