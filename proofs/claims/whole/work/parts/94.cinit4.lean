/-! THE CLASS: its constructor -/
theorem fy_a {G : ax_G} {T T1 : Nat → Nat} {N N1 : Nat → Int} {R R1 : Nat → Int → Option Nat} {z z1 a : Nat} (h : fyS G T N R z a) (eT : ∀ q, q < a + 4 → T1 q = T q ∧ N1 q = N q) (eA : ∀ j, j ≠ 8 → j ≠ 9 → R1 a j = R a j) (hz : z ≤ z1) (tz : ∀ q, T1 q ≠ 99 → q < z1) : fyS G T1 N1 R1 z1 a := by
  obtain ⟨⟨h1, h2⟩, ⟨⟨h3, h4⟩, h5⟩, h6, h7, ⟨h8, h9⟩, ⟨h10, h11, h12⟩, h13, h14, h15⟩ := h
  exact ⟨⟨by omega, h2⟩, ⟨⟨by rw [(eT _ (by omega)).1]; exact h3, by rw [(eT _ (by omega)).2]; exact h4⟩, h5⟩, tz, by rw [(eT _ (by omega)).1]; exact h7, ⟨by rw [eA _ (by decide) (by decide)]; exact h8, by rw [(eT _ (by omega)).1]; exact h9⟩, ⟨by rw [eA _ (by decide) (by decide)]; exact h10, by rw [(eT _ (by omega)).1]; exact h11, by rw [(eT _ (by omega)).2]; exact h12⟩, by rw [eA _ (by decide) (by decide)]; exact h13, by rw [(eT _ (by omega)).1]; exact h14, by rw [(eT _ (by omega)).2]; exact h15⟩
theorem rpT_eq {T T1 : Nat → Nat} {N N1 : Nat → Int} {R R1 : Nat → Int → Option Nat} {r w : Nat} (h : rpT T N R r w) (e : ∀ q, q = r ∨ (w ≤ q ∧ q < w + 5) → T1 q = T q ∧ N1 q = N q) (er : ∀ j, j ≠ 2 → j ≠ 3 → R1 r j = R r j) : rpT T1 N1 R1 r w := by
  obtain ⟨h1, ⟨h2, h3, h4⟩, ⟨h5, h6, h7⟩, ⟨h8, h9, h10⟩, ⟨h11, h12, h13⟩, h14, h15, h16⟩ := h
  refine ⟨?_, ⟨?_, ?_, ?_⟩, ⟨?_, ?_, ?_⟩, ⟨?_, ?_, ?_⟩, ⟨?_, ?_, ?_⟩, ?_, ?_, ?_⟩
  all_goals first | (rw [er _ (by decide) (by decide)]; assumption) | (rw [(e _ (by omega)).1]; assumption) | (rw [(e _ (by omega)).2]; assumption)
theorem mgT_eq {T T1 : Nat → Nat} {N N1 : Nat → Int} {R R1 : Nat → Int → Option Nat} {g : Nat} (h : mgT T N R g) (e : ∀ q, g ≤ q → q < g + 93 → T1 q = T q ∧ N1 q = N q) (e1 : ∀ q, g < q → q < g + 93 → q ≠ g + 1 → R1 q = R q) (e2 : ∀ j, j ≠ 16 → R1 g j = R g j) : mgT T1 N1 R1 g := by
  obtain ⟨h1, ⟨h2, h3, h4⟩, ⟨h5, h6, h7⟩, ⟨h8, h9⟩, ⟨h10, h11⟩, ⟨h12, h13⟩, ⟨h14, h15⟩, ⟨h16, h17⟩, ⟨h18, h19⟩, ⟨h20, h21⟩, ⟨h22, h23⟩, ⟨h24, h25⟩, h26, h27⟩ := h
  refine ⟨?_, ⟨?_, ?_, ?_⟩, ⟨?_, ?_, ?_⟩, ⟨?_, mtT_eq h9 (fun q a1 a2 => ⟨(e q (by omega) (by omega)).1, (e q (by omega) (by omega)).2, e1 q (by omega) (by omega) (by omega)⟩)⟩, ⟨?_, mtT_eq h11 (fun q a1 a2 => ⟨(e q (by omega) (by omega)).1, (e q (by omega) (by omega)).2, e1 q (by omega) (by omega) (by omega)⟩)⟩, ⟨?_, ?_⟩, ⟨?_, ?_⟩, ⟨?_, ?_⟩, ⟨?_, ?_⟩, ⟨?_, ?_⟩, ⟨?_, ?_⟩, ⟨?_, shT_eq h25 (fun q a1 a2 => ⟨(e q (by omega) (by omega)).1, (e q (by omega) (by omega)).2, e1 q (by omega) (by omega) (by omega)⟩)⟩, ?_, shT_eq h27 (fun q a1 a2 => ⟨(e q (by omega) (by omega)).1, (e q (by omega) (by omega)).2, e1 q (by omega) (by omega) (by omega)⟩)⟩
  all_goals first | (rw [e2 _ (by decide)]; assumption) | (rw [(e _ (by omega) (by omega)).1]; assumption) | (rw [(e _ (by omega) (by omega)).2]; assumption)
def s11 (T : Nat → Nat) (N : Nat → Int) (R : Nat → Int → Option Nat) (a : Nat) (x : Int) : Prop := (R a 4 = some (a + 4) ∧ T (a + 4) = 17 ∧ N (a + 4) = 5) ∧ (R a 5 = some (a + 5) ∧ mgT T N R (a + 5) ∧ ∀ j, R (a + 6) j = none) ∧ (R a 6 = some (a + 98) ∧ mtT T N R (a + 98)) ∧ (R a 7 = some (a + 137) ∧ mtT T N R (a + 137)) ∧ (R a 10 = some (a + 176) ∧ T (a + 176) = 13 ∧ N (a + 176) = 100) ∧ ∀ k : Nat, (k : Int) < x → R (a + 4) k = some (a + 177 + k) ∧ T (a + 177 + k) = 9 ∧ R (a + 177 + k) 0 = none ∧ R (a + 177 + k) 2 = none
def j11 (I : Nat → Int → Int) (a : Nat) (x : Int) : Prop := I a 2 = 0 ∧ I a 11 = 0 ∧ I (a + 1) 0 = 0 ∧ I (a + 5) 1 = 0 ∧ ∀ k : Nat, (k : Int) < x → I (a + 177 + k) 1 = 0
theorem s11_eq {T T1 : Nat → Nat} {N N1 : Nat → Int} {R R1 : Nat → Int → Option Nat} {a z : Nat} {x : Int} (h : s11 T N R a x) (hz : (z : Int) = a + 177 + x) (x0 : 0 ≤ x) (e : ∀ q, q < z → T1 q = T q ∧ N1 q = N q) (e1 : ∀ q, a + 4 ≤ q → q < z → R1 q = R q) (ea : ∀ j, j ≠ 8 → j ≠ 9 → R1 a j = R a j) : s11 T1 N1 R1 a x := by
  obtain ⟨⟨h1, h2, h3⟩, ⟨h4, h5, h6⟩, ⟨h7, h8⟩, ⟨h9, h10⟩, ⟨h11, h12, h13⟩, h14⟩ := h
  refine ⟨⟨?_, ?_, ?_⟩, ⟨?_, mgT_eq h5 (fun q a1 a2 => e q (by omega)) (fun q a1 a2 _ => e1 q (by omega) (by omega)) (fun j _ => by rw [e1 (a + 5) (by omega) (by omega)]), fun j => by rw [e1 (a + 6) (by omega) (by omega)]; exact h6 j⟩, ⟨?_, mtT_eq h8 (fun q a1 a2 => ⟨(e q (by omega)).1, (e q (by omega)).2, e1 q (by omega) (by omega)⟩)⟩, ⟨?_, mtT_eq h10 (fun q a1 a2 => ⟨(e q (by omega)).1, (e q (by omega)).2, e1 q (by omega) (by omega)⟩)⟩, ⟨?_, ?_, ?_⟩, fun k hk => ?_⟩
  all_goals first | (rw [ea _ (by decide) (by decide)]; assumption) | (rw [(e _ (by omega)).1]; assumption) | (rw [(e _ (by omega)).2]; assumption) | skip
  obtain ⟨a1, a2, a3, a4⟩ := h14 k hk
  rw [e1 (a + 4) (by omega) (by omega), e1 (a + 177 + k) (by omega) (by omega), (e (a + 177 + k) (by omega)).1]
  exact ⟨a1, a2, a3, a4⟩
theorem s11_s {T : Nat → Nat} {N : Nat → Int} {R : Nat → Int → Option Nat} {a z : Nat} {x : Int} (h : s11 T N R a x) (x0 : 0 ≤ x) (hz : (z : Int) = a + 177 + x) : s11 (ax_n T z 9) N (ax_u (ax_n R z (fun _ => none)) (a + 4) x (some z)) a (x + 1) := by
  obtain ⟨⟨h1, h2, h3⟩, ⟨h4, h5, h6⟩, ⟨h7, h8⟩, ⟨h9, h10⟩, ⟨h11, h12, h13⟩, h14⟩ := h
  refine ⟨⟨?_, ?_, ?_⟩, ⟨?_, mgT_eq h5 (fun q a1 a2 => ⟨?_, ?_⟩) (fun q a1 a2 _ => ?_) (fun j _ => ?_), fun j => ?_⟩, ⟨?_, mtT_eq h8 (fun q a1 a2 => ⟨?_, ?_, ?_⟩)⟩, ⟨?_, mtT_eq h10 (fun q a1 a2 => ⟨?_, ?_, ?_⟩)⟩, ⟨?_, ?_, ?_⟩, fun k hk => ?_⟩
  all_goals first | rfl | assumption | (simp (disch := omega) only [axn_a, axn_s, axu_s, axu_a, axu_j, axu_row]; done) | (simp (disch := omega) only [axn_a, axn_s, axu_s, axu_a, axu_j, axu_row]; assumption) | (simp (disch := omega) only [axn_a, axn_s, axu_s, axu_a, axu_j, axu_row]; exact h6 j) | skip
  by_cases e : (k : Int) = x
  · have e1 : a + 177 + k = z := by omega
    rw [e1, e]
    refine ⟨?_, ?_, ?_, ?_⟩
    all_goals (simp (disch := omega) only [axn_a, axn_s, axu_s, axu_a, axu_j, axu_row])
  · obtain ⟨a1, a2, a3, a4⟩ := h14 k (by omega)
    refine ⟨?_, ?_, ?_, ?_⟩
    all_goals (simp (disch := omega) only [axn_a, axn_s, axu_s, axu_a, axu_j, axu_row]; assumption)
/-- what the constructor leaves -/
def f11 (G : ax_G) (T : Nat → Nat) (N : Nat → Int) (I : Nat → Int → Int) (R : Nat → Int → Option Nat) (a : Nat) : Prop :=
  fyS G T N R (a + 197) a ∧ s11 T N R a 5 ∧ (R a 8 = some (a + 183) ∧ rpT T N R (a + 183) (a + 184) ∧ R (a + 183) 0 = none) ∧ (R a 9 = some (a + 189) ∧ rpT T N R (a + 189) (a + 192) ∧ R (a + 189) 0 = some (a + 190) ∧ T (a + 190) = 5) ∧
  (∀ j : Nat, j < 100 → I (a + 176) j = sgn j) ∧ (I a 2 = 1 ∧ I a 11 = 0 ∧ I (a + 1) 0 = mdT 0 (-9) 0 ∧ I (a + 5) 1 = 0 ∧ ∀ k : Nat, (k : Int) < 5 → I (a + 177 + k) 1 = 0) ∧
  (T (a + 182) = 5 ∧ I (a + 182) 1 = 0 ∧ R (a + 182) 2 = none ∧ R (a + 182) 4 = some G.2.2.2.2.1 ∧ R (a + 182) 3 = none ∧ R (a + 182) 0 = some (a + 1) ∧ I (a + 182) 5 = 0) ∧
  R (a + 2) 0 = some (a + 182) ∧ (∀ b, 0 ≤ b → b < 4 → R (a + 3) b = some (a + 182)) ∧ (∀ j, R (a + 188) j = none) ∧ (∀ j, I (a + 186) j = 0) ∧ I (a + 183) 8 = 0

set_option maxHeartbeats 4000000 in
set_option maxRecDepth 100000 in
theorem c_init11 {G : ax_G} {T : Nat → Nat} {N : Nat → Int} {I : Nat → Int → Int} {R : Nat → Int → Option Nat} {z : Nat} {a : Nat} (ha : T a = 11) (hz : z = a + 1) (hb0 : G.2.2.2.1 ≤ a) (hnl : (T G.2.2.2.2.1 = 13 ∧ N G.2.2.2.2.1 = 0) ∧ G.2.2.2.2.1 < G.2.2.2.1) (htz : ∀ q, a + 1 ≤ q → T q = 99) (hI : ∀ j, I a j = 0) : axM G YX11_init 6 [vR a] T N I R z 196 2501 (fun r1 T1 N1 I1 R1 z1 => r1 = none ∧ z1 = a + 197 ∧ grK a (a + 197) T N I R T1 N1 I1 R1 ∧ f11 G T1 N1 I1 R1 a) := by

  refine ax_enter (by decide) (Nat.le_of_ble_eq_true rfl) (ax_cat rfl) (fun f hC => ?_)
  show axX G f 196 2501 _ 0 [vR a, vU] [] T N I R z 196 2501
  subst hz
  have tail : ∀ (T1 : Nat → Nat) (N1 : Nat → Int) (R1 : Nat → Int → Option Nat) (I1 : Nat → Int → Int) (y : ax_V) (k9 n9 : Nat), fyS G T1 N1 R1 (a + 182) a → s11 T1 N1 R1 a 5 → 15 ≤ k9 → 169 ≤ n9 → j11 I1 a 5 → (∀ j : Nat, j < 100 → I1 (a + 176) j = sgn j) → grK a (a + 182) T N I R T1 N1 I1 R1 → axX G f 196 2501 (fun r1 T1 N1 I1 R1 z1 => r1 = none ∧ z1 = a + 197 ∧ grK a (a + 197) T N I R T1 N1 I1 R1 ∧ f11 G T1 N1 I1 R1 a) 153 [vR a, y] [] T1 N1 I1 R1 (a + 182) k9 n9 := by
    intro T1 N1 R1 I1 y k9 n9 h0 h1 hk hn hj hsg h2
    refine x_aload_n (pc := 153) hC dX11_init_153 rfl ?_
    refine x_callV (pc := 154) hC cv_X11_55 dX11_init_154 (c_makeFirst0 rfl h0 (by rw [hj.1]; omega)) (fy_ta h0) rfl (by decide) (by omega) (by omega) rfl rfl (Nat.le_of_ble_eq_true rfl) (fun _ _ _ _ _ _ hq => ?_)
    rename_i r5 T5 N5 I5 R5 z5
    obtain ⟨rfl, rfl, rfl, rfl, ⟨hR5, hR6⟩, rfl⟩ := hq
    have tR5 : ∀ q, q ≠ a + 3 → R5 q = _ := fun q hq => hR5 q hq
    dsimp only [Option.toList, List.cons_append, List.nil_append]
    refine x_astore_n (pc := 157) hC dX11_init_157 (Nat.le_of_ble_eq_true rfl) ?_
    dsimp only [List.set]
    refine x_aload_n (pc := 158) hC dX11_init_158 rfl ?_
    refine x_new (pc := 159) hC nw_X11_59 dX11_init_159 (by omega) (by omega) ?_
    refine x_dup (pc := 162) hC dX11_init_162 rfl ?_
    refine x_aload_n (pc := 163) hC dX11_init_163 rfl ?_
    refine x_null (pc := 164) hC dX11_init_164 ?_
    refine x_callI (pc := 165) hC ci_X11_61 dX11_init_165 (c_init6 (r := a + 183) (w := a + 184) (f := some (a + 182)) (d := none) axn_s (by omega) (by omega)) rfl (by decide) (by omega) (by omega) rfl rfl (Nat.le_of_ble_eq_true rfl) (fun _ _ _ _ _ _ hq => ?_)
    rename_i r6 T6 N6 I6 R6 z6
    obtain ⟨rfl, rfl, hr6, hp6, hq6, hi6, hj6⟩ := hq
    have tT6 : ∀ q, q < a + 184 → T6 q = _ := fun q hq => if e : q = a + 183 then (by rw [e]; exact hr6.2.2.2.1) else (hr6.2.1 q hq e).1
    have tN6 : ∀ q, q < a + 184 → N6 q = _ := fun q hq => if e : q = a + 183 then (by rw [e]; exact hr6.2.2.2.2) else (hr6.2.1 q hq e).2.1
    have tI6 : ∀ q, q < a + 184 → q ≠ a + 183 → I6 q = _ := fun q hq h9 => (hr6.2.1 q hq h9).2.2.1
    have tR6 : ∀ q, q < a + 184 → q ≠ a + 183 → R6 q = _ := fun q hq h9 => (hr6.2.1 q hq h9).2.2.2
    have uT6 : ∀ q, a + 184 + 5 ≤ q → T6 q = _ := fun q hq => hr6.2.2.1 q hq
    dsimp only [Option.toList, List.nil_append]
    refine x_putO (pc := 168) hC pf_X11_64 dX11_init_168 (Or.inl ⟨_, rfl⟩) (by simp (disch := omega) only [axn_a, axn_s, axu_s, axu_a, axu_j, axu_row, tR5, mkI, mkS, tT6, tN6, tI6, tR6, uT6]; exact fy_ta h0) (fun _ => rfl) ?_
    refine x_aload_n (pc := 171) hC dX11_init_171 rfl ?_
    refine x_new (pc := 172) hC nw_X11_59 dX11_init_172 (by omega) (by omega) ?_
    refine x_dup (pc := 175) hC dX11_init_175 rfl ?_
    refine x_aload_n (pc := 176) hC dX11_init_176 rfl ?_
    refine x_new (pc := 177) hC nw_X11_18 dX11_init_177 (by omega) (by omega) ?_
    refine x_dup (pc := 180) hC dX11_init_180 rfl ?_
    refine x_new (pc := 181) hC nw_X11_11 dX11_init_181 (by omega) (by omega) ?_
    refine x_dup (pc := 184) hC dX11_init_184 rfl ?_
    refine x_callI (pc := 185) hC ci_X11_13 dX11_init_185 c_init10 rfl (by decide) (by omega) (by omega) rfl rfl (Nat.le_of_ble_eq_true rfl) (fun _ _ _ _ _ _ hq => ?_)
    obtain ⟨⟨rfl, rfl, rfl⟩, rfl, rfl, rfl⟩ := hq
    dsimp only [Option.toList, List.nil_append]
    refine x_iconst (pc := 188) hC dX11_init_188 ?_
    refine x_null (pc := 189) hC dX11_init_189 ?_
    refine x_nolines0 (pc := 190) hC gs_X11_68 dX11_init_190 ?_
    refine x_null (pc := 193) hC dX11_init_193 ?_
    refine x_callI (pc := 194) hC ci_X11_71 dX11_init_194 (c_init5 (x := a + 184 + 5 + 1) (t := a + 184 + 5 + 1 + 1) (n := 0) (p := none) (q := none) (r := some G.2.2.2.2.1) (Or.inr (Or.inr (by rw [axn_a (by omega), axn_s]))) axn_s) rfl (by decide) (by omega) (by omega) rfl rfl (Nat.le_of_ble_eq_true rfl) (fun _ _ _ _ _ _ hq => ?_)
    obtain ⟨⟨rfl, rfl, rfl⟩, rfl, rfl, rfl⟩ := hq
    dsimp only [Option.toList, List.nil_append]
    refine x_callI (pc := 197) hC ci_X11_61 dX11_init_197 (c_init6 (r := a + 189) (w := a + 192) (f := some (a + 182)) (d := some (a + 190)) (by rw [axn_a (by omega), axn_a (by omega), axn_s]) (by omega) (by omega)) rfl (by decide) (by omega) (by omega) rfl rfl (Nat.le_of_ble_eq_true rfl) (fun _ _ _ _ _ _ hq => ?_)
    rename_i r7 T7 N7 I7 R7 z7
    obtain ⟨rfl, rfl, hr7, hp7, hq7, hi7, hj7⟩ := hq
    have tT7 : ∀ q, q < a + 192 → T7 q = _ := fun q hq => if e : q = a + 189 then (by rw [e]; exact hr7.2.2.2.1) else (hr7.2.1 q hq e).1
    have tN7 : ∀ q, q < a + 192 → N7 q = _ := fun q hq => if e : q = a + 189 then (by rw [e]; exact hr7.2.2.2.2) else (hr7.2.1 q hq e).2.1
    have tI7 : ∀ q, q < a + 192 → q ≠ a + 189 → I7 q = _ := fun q hq h9 => (hr7.2.1 q hq h9).2.2.1
    have tR7 : ∀ q, q < a + 192 → q ≠ a + 189 → R7 q = _ := fun q hq h9 => (hr7.2.1 q hq h9).2.2.2
    have uT7 : ∀ q, a + 192 + 5 ≤ q → T7 q = _ := fun q hq => hr7.2.2.1 q hq
    dsimp only [Option.toList, List.nil_append]
    refine x_putO (pc := 200) hC pf_X11_74 dX11_init_200 (Or.inl ⟨_, rfl⟩) (by simp (disch := omega) only [axn_a, axn_s, axu_s, axu_a, axu_j, axu_row, tR5, mkI, mkS, tT6, tN6, tI6, tR6, uT6, tT7, tN7, tI7, tR7, uT7]; exact fy_ta h0) (fun _ => rfl) ?_
    refine x_vret (pc := 203) hC rfl dX11_init_203 ?_
    have hj1 := hj.1
    have hj2 := hj.2.2.1
    have htz9 : ∀ q, T7 q ≠ 99 → q < a + 197 := fun q hq => by
      rcases Nat.lt_or_ge q (a + 192 + 5) with h9 | h9
      · exact h9
      · exfalso
        apply hq
        simp (disch := omega) only [axn_a, axn_s, axu_s, axu_a, axu_j, axu_row, tR5, mkI, mkS, tT6, tN6, tI6, tR6, uT6, tT7, tN7, tI7, tR7, uT7, hj1, hj2, reduceIte, eq_self]
        rw [h2.2.1 q (by omega)]
        exact htz q (by omega)
    refine ⟨rfl, by omega, ⟨fun q hq => ⟨?_, ?_, ?_, ?_⟩, fun q hq => ?_, ?_, ?_⟩, fy_a h0 (fun q hq => ⟨?_, ?_⟩) (fun j h8 h9 => ?_) (by omega) htz9, s11_eq (z := a + 182) h1 (by omega) (by omega) (fun q hq => ⟨?_, ?_⟩) (fun q a1 a2 => ?_) (fun j h8 h9 => ?_), ⟨?_, rpT_eq hp6 (fun q hq => ⟨?_, ?_⟩) (fun j b2 b3 => ?_), ?_⟩, ⟨?_, rpT_eq hp7 (fun q hq => ⟨?_, ?_⟩) (fun j b2 b3 => ?_), ?_, ?_⟩, fun j hj9 => ?_, ⟨?_, ?_, ?_, ?_, fun k hk9 => ?_⟩, ⟨?_, ?_, ?_, ?_, ?_, ?_, ?_⟩, ?_, fun b b0 b1 => ?_, fun j => ?_, fun j => ?_, ?_⟩
    all_goals first
      | (simp (disch := omega) only [axn_a, axn_s, axu_s, axu_a, axu_j, axu_row, tR5, mkI, mkS, tT6, tN6, tI6, tR6, uT6, tT7, tN7, tI7, tR7, uT7, hj1, hj2, reduceIte, eq_self]; done)
      | (simp (disch := omega) only [axn_a, axn_s, axu_s, axu_a, axu_j, axu_row, tR5, mkI, mkS, tT6, tN6, tI6, tR6, uT6, tT7, tN7, tI7, tR7, uT7, hj1, hj2, reduceIte, eq_self]; exact (h2.1 q hq).1)
      | (simp (disch := omega) only [axn_a, axn_s, axu_s, axu_a, axu_j, axu_row, tR5, mkI, mkS, tT6, tN6, tI6, tR6, uT6, tT7, tN7, tI7, tR7, uT7, hj1, hj2, reduceIte, eq_self]; exact (h2.1 q hq).2.1)
      | (simp (disch := omega) only [axn_a, axn_s, axu_s, axu_a, axu_j, axu_row, tR5, mkI, mkS, tT6, tN6, tI6, tR6, uT6, tT7, tN7, tI7, tR7, uT7, hj1, hj2, reduceIte, eq_self]; exact (h2.1 q hq).2.2.1)
      | (simp (disch := omega) only [axn_a, axn_s, axu_s, axu_a, axu_j, axu_row, tR5, mkI, mkS, tT6, tN6, tI6, tR6, uT6, tT7, tN7, tI7, tR7, uT7, hj1, hj2, reduceIte, eq_self]; exact (h2.1 q hq).2.2.2)
      | (simp (disch := omega) only [axn_a, axn_s, axu_s, axu_a, axu_j, axu_row, tR5, mkI, mkS, tT6, tN6, tI6, tR6, uT6, tT7, tN7, tI7, tR7, uT7, hj1, hj2, reduceIte, eq_self]; exact h2.2.1 q (by omega))
      | (simp (disch := omega) only [axn_a, axn_s, axu_s, axu_a, axu_j, axu_row, tR5, mkI, mkS, tT6, tN6, tI6, tR6, uT6, tT7, tN7, tI7, tR7, uT7, hj1, hj2, reduceIte, eq_self]; exact h2.2.2.1)
      | (simp (disch := omega) only [axn_a, axn_s, axu_s, axu_a, axu_j, axu_row, tR5, mkI, mkS, tT6, tN6, tI6, tR6, uT6, tT7, tN7, tI7, tR7, uT7, hj1, hj2, reduceIte, eq_self]; exact h2.2.2.2)
      | (simp (disch := omega) only [axn_a, axn_s, axu_s, axu_a, axu_j, axu_row, tR5, mkI, mkS, tT6, tN6, tI6, tR6, uT6, tT7, tN7, tI7, tR7, uT7, hj1, hj2, reduceIte, eq_self]; exact hq6.1)
      | (simp (disch := omega) only [axn_a, axn_s, axu_s, axu_a, axu_j, axu_row, tR5, mkI, mkS, tT6, tN6, tI6, tR6, uT6, tT7, tN7, tI7, tR7, uT7, hj1, hj2, reduceIte, eq_self]; exact hq7.1)
      | (simp (disch := omega) only [axn_a, axn_s, axu_s, axu_a, axu_j, axu_row, tR5, mkI, mkS, tT6, tN6, tI6, tR6, uT6, tT7, tN7, tI7, tR7, uT7, hj1, hj2, reduceIte, eq_self]; exact hsg j hj9)
      | (simp (disch := omega) only [axn_a, axn_s, axu_s, axu_a, axu_j, axu_row, tR5, mkI, mkS, tT6, tN6, tI6, tR6, uT6, tT7, tN7, tI7, tR7, uT7, hj1, hj2, reduceIte, eq_self]; exact hj.2.1)
      | (simp (disch := omega) only [axn_a, axn_s, axu_s, axu_a, axu_j, axu_row, tR5, mkI, mkS, tT6, tN6, tI6, tR6, uT6, tT7, tN7, tI7, tR7, uT7, hj1, hj2, reduceIte, eq_self]; rfl)
      | (simp (disch := omega) only [axn_a, axn_s, axu_s, axu_a, axu_j, axu_row, tR5, mkI, mkS, tT6, tN6, tI6, tR6, uT6, tT7, tN7, tI7, tR7, uT7, hj1, hj2, reduceIte, eq_self]; rw [hj.2.2.1]; done)
      | (simp (disch := omega) only [axn_a, axn_s, axu_s, axu_a, axu_j, axu_row, tR5, mkI, mkS, tT6, tN6, tI6, tR6, uT6, tT7, tN7, tI7, tR7, uT7, hj1, hj2, reduceIte, eq_self]; exact hj.2.2.2.1)
      | (simp (disch := omega) only [axn_a, axn_s, axu_s, axu_a, axu_j, axu_row, tR5, mkI, mkS, tT6, tN6, tI6, tR6, uT6, tT7, tN7, tI7, tR7, uT7, hj1, hj2, reduceIte, eq_self]; exact hj.2.2.2.2 k hk9)
      | (simp (disch := omega) only [axn_a, axn_s, axu_s, axu_a, axu_j, axu_row, tR5, mkI, mkS, tT6, tN6, tI6, tR6, uT6, tT7, tN7, tI7, tR7, uT7, hj1, hj2, reduceIte, eq_self]; exact hR6 b b0 b1)
      | (simp (disch := omega) only [axn_a, axn_s, axu_s, axu_a, axu_j, axu_row, tR5, mkI, mkS, tT6, tN6, tI6, tR6, uT6, tT7, tN7, tI7, tR7, uT7, hj1, hj2, reduceIte, eq_self]; exact (hj6 _ _ (by omega) (by omega)).2)
      | (simp (disch := omega) only [axn_a, axn_s, axu_s, axu_a, axu_j, axu_row, tR5, mkI, mkS, tT6, tN6, tI6, tR6, uT6, tT7, tN7, tI7, tR7, uT7, hj1, hj2, reduceIte, eq_self]; exact (hj6 _ _ (by omega) (by omega)).1)
      | (simp (disch := omega) only [axn_a, axn_s, axu_s, axu_a, axu_j, axu_row, tR5, mkI, mkS, tT6, tN6, tI6, tR6, uT6, tT7, tN7, tI7, tR7, uT7, hj1, hj2, reduceIte, eq_self]; rw [hi6 _ (by decide)]; simp (disch := omega) only [axn_a, axn_s, axu_s, axu_a, axu_j, axu_row, tR5, mkI, mkS, tT6, tN6, tI6, tR6, uT6, tT7, tN7, tI7, tR7, uT7, hj1, hj2, reduceIte, eq_self])
      | skip
  have loop2 : ∀ (T1 : Nat → Nat) (N1 : Nat → Int) (R1 : Nat → Int → Option Nat) (k9 n9 : Nat), fyS G T1 N1 R1 (a + 182) a → s11 T1 N1 R1 a 5 → ∀ (n : Nat) (y : Int) (I1 : Nat → Int → Int), (100 - y).toNat ≤ n → 1 ≤ y → y ≤ 100 → 15 ≤ k9 → 169 ≤ n9 → j11 I1 a 5 → (∀ j : Nat, (j : Int) < y → I1 (a + 176) j = sgn j) → grK a (a + 182) T N I R T1 N1 I1 R1 → axX G f 196 2501 (fun r1 T1 N1 I1 R1 z1 => r1 = none ∧ z1 = a + 197 ∧ grK a (a + 197) T N I R T1 N1 I1 R1 ∧ f11 G T1 N1 I1 R1 a) 117 [vR a, vI y] [] T1 N1 I1 R1 (a + 182) k9 n9 := by
    intro T1 N1 R1 k9 n9 h0 h1 n
    induction n with
    | zero =>
      intro y I1 hn9 y0 y1 hk hn hj hsg h2
      refine x_iload_n (pc := 117) hC dX11_init_117 rfl ?_
      refine x_bipush (pc := 118) hC dX11_init_118 (by decide) ?_
      refine x_icmp_ge (pc := 120) hC 153 dX11_init_120 (by decide) (by omega) (by omega) (fun b120 => ?_) (fun b120 => ?_)
      · exact tail T1 N1 R1 _ _ _ _ h0 h1 hk hn hj (fun j hj9 => hsg j (by omega)) h2
      · exfalso; omega
    | succ n ih =>
      intro y I1 hn9 y0 y1 hk hn hj hsg h2
      have ey : I1 (a + 176) (y - 1) = sgn (y - 1).toNat := by
        have := hsg (y - 1).toNat (by omega)
        rwa [show (((y - 1).toNat : Nat) : Int) = y - 1 by omega] at this
      have er := sgn_r (y - 1).toNat
      replace ih := fun y I1 b1 b2 b3 b5 b6 b7 => ih y I1 b1 b2 b3 hk hn b5 b6 b7
      refine x_iload_n (pc := 117) hC dX11_init_117 rfl ?_
      refine x_bipush (pc := 118) hC dX11_init_118 (by decide) ?_
      refine x_icmp_ge (pc := 120) hC 153 dX11_init_120 (by decide) (by omega) (by omega) (fun b120 => ?_) (fun b120 => ?_)
      · exact tail T1 N1 R1 _ _ _ _ h0 h1 hk hn hj (fun j hj9 => hsg j (by omega)) h2
      · refine x_aload_n (pc := 123) hC dX11_init_123 rfl ?_
        refine x_getO (pc := 124) hC gf_X11_50 dX11_init_124 (fy_ta h0) h1.2.2.2.2.1.1 ?_
        refine x_iload_n (pc := 127) hC dX11_init_127 rfl ?_
        refine x_bipush (pc := 128) hC dX11_init_128 (by decide) ?_
        refine x_aload_n (pc := 130) hC dX11_init_130 rfl ?_
        refine x_getO (pc := 131) hC gf_X11_50 dX11_init_131 (fy_ta h0) h1.2.2.2.2.1.1 ?_
        refine x_iload_n (pc := 134) hC dX11_init_134 rfl ?_
        refine x_iconst (pc := 135) hC dX11_init_135 ?_
        refine x_isub (pc := 136) hC dX11_init_136 ?_
        refine x_iald (pc := 137) hC dX11_init_137 h1.2.2.2.2.1.2.1 (by omega) (by rw [h1.2.2.2.2.1.2.2]; omega) ?_
        rw [ey]
        refine x_imul (pc := 138) hC dX11_init_138 ?_
        refine x_bipush (pc := 139) hC dX11_init_139 (by decide) ?_
        refine x_iadd (pc := 141) hC dX11_init_141 ?_
        refine x_sipush (pc := 142) hC dX11_init_142 (by decide) ?_
        refine x_irem (pc := 145) hC dX11_init_145 (by omega) (by omega) (by omega) (by omega) ?_
        refine x_iast (pc := 146) hC dX11_init_146 h1.2.2.2.2.1.2.1 (by omega) (by rw [h1.2.2.2.2.1.2.2]; omega) ?_
        refine x_iinc (pc := 147) hC dX11_init_147 rfl ?_
        dsimp only [List.set]
        refine x_goto (pc := 150) hC 117 dX11_init_150 (by decide) ?_
        refine ih (y + 1) _ (by omega) (by omega) (by omega) ⟨?_, ?_, ?_, ?_, fun k hk => ?_⟩ (fun j hj9 => ?_) ⟨fun q hq => ?_, h2.2.1, h2.2.2.1, h2.2.2.2⟩
        · simp (disch := omega) only [axn_a, axn_s, axu_s, axu_a, axu_j, axu_row]; exact hj.1
        · simp (disch := omega) only [axn_a, axn_s, axu_s, axu_a, axu_j, axu_row]; exact hj.2.1
        · simp (disch := omega) only [axn_a, axn_s, axu_s, axu_a, axu_j, axu_row]; exact hj.2.2.1
        · simp (disch := omega) only [axn_a, axn_s, axu_s, axu_a, axu_j, axu_row]; exact hj.2.2.2.1
        · simp (disch := omega) only [axn_a, axn_s, axu_s, axu_a, axu_j, axu_row]; exact hj.2.2.2.2 k hk
        · by_cases e : (j : Int) = y
          · have e1 : j = (y - 1).toNat + 1 := by omega
            rw [e, axu_s, e1]
            rfl
          · rw [axu_j e]; exact hsg j (by omega)
        · obtain ⟨q1, q2, q3, q4⟩ := h2.1 q hq
          refine ⟨q1, q2, ?_, q4⟩
          simp (disch := omega) only [axn_a, axn_s, axu_s, axu_a, axu_j, axu_row]; exact q3
  have loop1 : ∀ (n : Nat) (x : Int) (T1 : Nat → Nat) (N1 : Nat → Int) (I1 : Nat → Int → Int) (R1 : Nat → Int → Option Nat) (z1 k9 n9 : Nat), (5 - x).toNat ≤ n → 0 ≤ x → x ≤ 5 → (z1 : Int) = a + 177 + x → 15 + (5 - x) ≤ k9 → 169 + 3 * (5 - x) ≤ n9 → fyS G T1 N1 R1 z1 a → s11 T1 N1 R1 a x → j11 I1 a x → grK a z1 T N I R T1 N1 I1 R1 → axX G f 196 2501 (fun r1 T1 N1 I1 R1 z1 => r1 = none ∧ z1 = a + 197 ∧ grK a (a + 197) T N I R T1 N1 I1 R1 ∧ f11 G T1 N1 I1 R1 a) 83 [vR a, vI x] [] T1 N1 I1 R1 z1 k9 n9 := by
    intro n
    induction n with
    | zero =>
      intro x T1 N1 I1 R1 z1 k9 n9 hn9 x0 x1 hz hk hn h0 h1 hj h2
      refine x_iload_n (pc := 83) hC dX11_init_83 rfl ?_
      refine x_iconst (pc := 84) hC dX11_init_84 ?_
      refine x_icmp_ge (pc := 85) hC 107 dX11_init_85 (by decide) (by omega) (by omega) (fun b85 => ?_) (fun b85 => ?_)
      · refine x_aload_n (pc := 107) hC dX11_init_107 rfl ?_
        refine x_getO (pc := 108) hC gf_X11_50 dX11_init_108 (fy_ta h0) h1.2.2.2.2.1.1 ?_
        refine x_iconst (pc := 111) hC dX11_init_111 ?_
        refine x_bipush (pc := 112) hC dX11_init_112 (by decide) ?_
        refine x_iast (pc := 114) hC dX11_init_114 h1.2.2.2.2.1.2.1 (by omega) (by rw [h1.2.2.2.2.1.2.2]; omega) ?_
        refine x_iconst (pc := 115) hC dX11_init_115 ?_
        refine x_istore_n (pc := 116) hC dX11_init_116 (Nat.le_of_ble_eq_true rfl) ?_
        dsimp only [List.set]
        have e7 : x = 5 := by omega
        subst e7
        have e : z1 = a + 182 := by omega
        subst e
        refine loop2 T1 N1 R1 _ _ h0 h1 _ 1 _ (Nat.le_refl _) (by omega) (by omega) (by omega) (by omega) ⟨?_, ?_, ?_, ?_, fun k hk => ?_⟩ (fun j hj => ?_) ⟨fun q hq => ?_, h2.2.1, h2.2.2.1, h2.2.2.2⟩
        · simp (disch := omega) only [axn_a, axn_s, axu_s, axu_a, axu_j, axu_row]; exact hj.1
        · simp (disch := omega) only [axn_a, axn_s, axu_s, axu_a, axu_j, axu_row]; exact hj.2.1
        · simp (disch := omega) only [axn_a, axn_s, axu_s, axu_a, axu_j, axu_row]; exact hj.2.2.1
        · simp (disch := omega) only [axn_a, axn_s, axu_s, axu_a, axu_j, axu_row]; exact hj.2.2.2.1
        · simp (disch := omega) only [axn_a, axn_s, axu_s, axu_a, axu_j, axu_row]; exact hj.2.2.2.2 k hk
        · have e : j = 0 := by omega
          subst e
          rw [show ((0 : Nat) : Int) = 0 from rfl, axu_s]; rfl
        · obtain ⟨q1, q2, q3, q4⟩ := h2.1 q hq
          refine ⟨q1, q2, ?_, q4⟩
          simp (disch := omega) only [axn_a, axn_s, axu_s, axu_a, axu_j, axu_row]; exact q3
      · exfalso; omega
    | succ n ih =>
      intro x T1 N1 I1 R1 z1 k9 n9 hn9 x0 x1 hz hk hn h0 h1 hj h2
      refine x_iload_n (pc := 83) hC dX11_init_83 rfl ?_
      refine x_iconst (pc := 84) hC dX11_init_84 ?_
      refine x_icmp_ge (pc := 85) hC 107 dX11_init_85 (by decide) (by omega) (by omega) (fun b85 => ?_) (fun b85 => ?_)
      · refine x_aload_n (pc := 107) hC dX11_init_107 rfl ?_
        refine x_getO (pc := 108) hC gf_X11_50 dX11_init_108 (fy_ta h0) h1.2.2.2.2.1.1 ?_
        refine x_iconst (pc := 111) hC dX11_init_111 ?_
        refine x_bipush (pc := 112) hC dX11_init_112 (by decide) ?_
        refine x_iast (pc := 114) hC dX11_init_114 h1.2.2.2.2.1.2.1 (by omega) (by rw [h1.2.2.2.2.1.2.2]; omega) ?_
        refine x_iconst (pc := 115) hC dX11_init_115 ?_
        refine x_istore_n (pc := 116) hC dX11_init_116 (Nat.le_of_ble_eq_true rfl) ?_
        dsimp only [List.set]
        have e7 : x = 5 := by omega
        subst e7
        have e : z1 = a + 182 := by omega
        subst e
        refine loop2 T1 N1 R1 _ _ h0 h1 _ 1 _ (Nat.le_refl _) (by omega) (by omega) (by omega) (by omega) ⟨?_, ?_, ?_, ?_, fun k hk => ?_⟩ (fun j hj => ?_) ⟨fun q hq => ?_, h2.2.1, h2.2.2.1, h2.2.2.2⟩
        · simp (disch := omega) only [axn_a, axn_s, axu_s, axu_a, axu_j, axu_row]; exact hj.1
        · simp (disch := omega) only [axn_a, axn_s, axu_s, axu_a, axu_j, axu_row]; exact hj.2.1
        · simp (disch := omega) only [axn_a, axn_s, axu_s, axu_a, axu_j, axu_row]; exact hj.2.2.1
        · simp (disch := omega) only [axn_a, axn_s, axu_s, axu_a, axu_j, axu_row]; exact hj.2.2.2.1
        · simp (disch := omega) only [axn_a, axn_s, axu_s, axu_a, axu_j, axu_row]; exact hj.2.2.2.2 k hk
        · have e : j = 0 := by omega
          subst e
          rw [show ((0 : Nat) : Int) = 0 from rfl, axu_s]; rfl
        · obtain ⟨q1, q2, q3, q4⟩ := h2.1 q hq
          refine ⟨q1, q2, ?_, q4⟩
          simp (disch := omega) only [axn_a, axn_s, axu_s, axu_a, axu_j, axu_row]; exact q3
      · refine x_aload_n (pc := 88) hC dX11_init_88 rfl ?_
        refine x_getO (pc := 89) hC gf_X11_29 dX11_init_89 (fy_ta h0) h1.1.1 ?_
        refine x_iload_n (pc := 92) hC dX11_init_92 rfl ?_
        refine x_new (pc := 93) hC nw_X11_27 dX11_init_93 (by omega) (by omega) ?_
        refine x_dup (pc := 96) hC dX11_init_96 rfl ?_
        refine x_callI (pc := 97) hC ci_X11_54 dX11_init_97 c_init9 rfl (by decide) (by omega) (by omega) rfl rfl (Nat.le_of_ble_eq_true rfl) (fun _ _ _ _ _ _ hq => ?_)
        obtain ⟨⟨rfl, rfl, rfl⟩, rfl, rfl, rfl⟩ := hq
        dsimp only [Option.toList, List.nil_append]
        refine x_aast (pc := 100) hC axEl_17 dX11_init_100 (by rw [axn_a (by omega)]; exact h1.1.2.1) (by omega) (by rw [h1.1.2.2]; omega) (fun v hv => by cases hv; rw [axn_s]; exact axTakes_9) ?_
        refine x_iinc (pc := 101) hC dX11_init_101 rfl ?_
        dsimp only [List.set]
        refine x_goto (pc := 104) hC 83 dX11_init_104 (by decide) ?_
        refine ih (x + 1) _ _ _ _ _ _ _ (by omega) (by omega) (by omega) (by omega) (by omega) (by omega) (fy_a h0 (fun q hq => ⟨axn_a (by omega), rfl⟩) (fun j _ _ => by simp (disch := omega) only [axn_a, axn_s, axu_s, axu_a, axu_j, axu_row]) (by omega) (fun q hq => ?_)) (s11_s h1 x0 hz) ⟨?_, ?_, ?_, ?_, fun k hk => ?_⟩ ⟨fun q hq => ?_, fun q hq => ?_, ?_, h2.2.2.2⟩
        · rcases Nat.lt_or_ge q (z1 + 1) with h9 | h9
          · exact h9
          · exfalso
            apply hq
            rw [axn_a (by omega), h2.2.1 q (by omega)]
            exact htz q (by omega)
        · simp (disch := omega) only [axn_a, axn_s, axu_s, axu_a, axu_j, axu_row]; exact hj.1
        · simp (disch := omega) only [axn_a, axn_s, axu_s, axu_a, axu_j, axu_row]; exact hj.2.1
        · simp (disch := omega) only [axn_a, axn_s, axu_s, axu_a, axu_j, axu_row]; exact hj.2.2.1
        · simp (disch := omega) only [axn_a, axn_s, axu_s, axu_a, axu_j, axu_row]; exact hj.2.2.2.1
        · by_cases e : (k : Int) = x
          · have e1 : a + 177 + k = z1 := by omega
            rw [e1, axn_s]
          · rw [axn_a (by omega)]; exact hj.2.2.2.2 k (by omega)
        · obtain ⟨q1, q2, q3, q4⟩ := h2.1 q hq
          refine ⟨?_, q2, ?_, ?_⟩
          all_goals (simp (disch := omega) only [axn_a, axn_s, axu_s, axu_a, axu_j, axu_row]; assumption)
        · rw [axn_a (by omega)]; exact h2.2.1 q (by omega)
        · rw [axn_a (by omega)]; exact h2.2.2.1
  refine x_aload_n (pc := 0) hC dX11_init_0 rfl ?_
  refine x_objInit (pc := 1) hC oi_X11_5 w_oinst w_ocode dX11_init_1 (by decide) rfl (Nat.le_of_ble_eq_true rfl) ?_
  refine x_aload_n (pc := 4) hC dX11_init_4 rfl ?_
  refine x_new (pc := 5) hC nw_X11_11 dX11_init_5 (by omega) (by omega) ?_
  refine x_dup (pc := 8) hC dX11_init_8 rfl ?_
  refine x_callI (pc := 9) hC ci_X11_13 dX11_init_9 c_init10 rfl (by decide) (by omega) (by omega) rfl rfl (Nat.le_of_ble_eq_true rfl) (fun _ _ _ _ _ _ hq => ?_)
  obtain ⟨⟨rfl, rfl, rfl⟩, rfl, rfl, rfl⟩ := hq
  dsimp only [Option.toList, List.nil_append]
  refine x_putO (pc := 12) hC pf_X11_14 dX11_init_12 (Or.inl ⟨_, rfl⟩) (by simp (disch := omega) only [axn_a, axn_s, axu_s, axu_a, axu_j, axu_row]; exact ha) (fun _ => rfl) ?_
  refine x_aload_n (pc := 15) hC dX11_init_15 rfl ?_
  refine x_bipush (pc := 16) hC dX11_init_16 (by decide) ?_
  refine x_newr (pc := 18) hC axEl_15 kl_X11_18 n_o15 dX11_init_18 (by omega) (by omega) (by omega) (by omega) ?_
  refine x_putO (pc := 21) hC pf_X11_20 dX11_init_21 (Or.inr ⟨_, rfl⟩) (by simp (disch := omega) only [axn_a, axn_s, axu_s, axu_a, axu_j, axu_row]; exact ha) (fun _ => rfl) ?_
  refine x_aload_n (pc := 24) hC dX11_init_24 rfl ?_
  refine x_iconst (pc := 25) hC dX11_init_25 ?_
  refine x_newr (pc := 26) hC axEl_15 kl_X11_18 n_o15 dX11_init_26 (by omega) (by omega) (by omega) (by omega) ?_
  refine x_putO (pc := 29) hC pf_X11_24 dX11_init_29 (Or.inr ⟨_, rfl⟩) (by simp (disch := omega) only [axn_a, axn_s, axu_s, axu_a, axu_j, axu_row]; exact ha) (fun _ => rfl) ?_
  refine x_aload_n (pc := 32) hC dX11_init_32 rfl ?_
  refine x_iconst (pc := 33) hC dX11_init_33 ?_
  refine x_newr (pc := 34) hC axEl_17 kl_X11_27 n_o17 dX11_init_34 (by omega) (by omega) (by omega) (by omega) ?_
  refine x_putO (pc := 37) hC pf_X11_29 dX11_init_37 (Or.inr ⟨_, rfl⟩) (by simp (disch := omega) only [axn_a, axn_s, axu_s, axu_a, axu_j, axu_row]; exact ha) (fun _ => rfl) ?_
  refine x_aload_n (pc := 40) hC dX11_init_40 rfl ?_
  refine x_new (pc := 41) hC nw_X11_33 dX11_init_41 (by omega) (by omega) ?_
  refine x_dup (pc := 44) hC dX11_init_44 rfl ?_
  refine x_callI (pc := 45) hC ci_X11_35 dX11_init_45 (c_init3 (g := a + 5) axn_s (by omega)) rfl (by decide) (by omega) (by omega) rfl rfl (Nat.le_of_ble_eq_true rfl) (fun _ _ _ _ _ _ hq => ?_)
  rename_i r1 T1 N1 I1 R1 z1
  obtain ⟨rfl, rfl, hr1, hs1, hg1, hi1, hn1⟩ := hq
  have tT1 : ∀ q, q < a + 5 → T1 q = _ := fun q hq => (hr1.1 q hq).1
  have tN1 : ∀ q, q < a + 5 → N1 q = _ := fun q hq => (hr1.1 q hq).2.1
  have tI1 : ∀ q, q < a + 5 → I1 q = _ := fun q hq => (hr1.1 q hq).2.2.1
  have tR1 : ∀ q, q < a + 5 → R1 q = _ := fun q hq => (hr1.1 q hq).2.2.2
  have uT1 : ∀ q, a + 5 + 93 ≤ q → T1 q = _ := fun q hq => hr1.2.1 q hq
  dsimp only [Option.toList, List.nil_append]
  refine x_putO (pc := 48) hC pf_X11_36 dX11_init_48 (Or.inl ⟨_, rfl⟩) (by simp (disch := omega) only [axn_a, axn_s, axu_s, axu_a, axu_j, axu_row, tT1, tN1, tI1, tR1, uT1]; exact ha) (fun _ => rfl) ?_
  refine x_aload_n (pc := 51) hC dX11_init_51 rfl ?_
  refine x_new (pc := 52) hC nw_X11_40 dX11_init_52 (by omega) (by omega) ?_
  refine x_dup (pc := 55) hC dX11_init_55 rfl ?_
  refine x_callI (pc := 56) hC ci_X11_42 dX11_init_56 (c_init2 (m := a + 98) axn_s (by omega)) rfl (by decide) (by omega) (by omega) rfl rfl (Nat.le_of_ble_eq_true rfl) (fun _ _ _ _ _ _ hq => ?_)
  rename_i r2 T2 N2 I2 R2 z2
  obtain ⟨rfl, rfl, hr2, hs2⟩ := hq
  have tT2 : ∀ q, q < a + 98 → T2 q = _ := fun q hq => (hr2.1 q hq).1
  have tN2 : ∀ q, q < a + 98 → N2 q = _ := fun q hq => (hr2.1 q hq).2.1
  have tI2 : ∀ q, q < a + 98 → I2 q = _ := fun q hq => (hr2.1 q hq).2.2.1
  have tR2 : ∀ q, q < a + 98 → R2 q = _ := fun q hq => (hr2.1 q hq).2.2.2
  have uT2 : ∀ q, a + 98 + 39 ≤ q → T2 q = _ := fun q hq => hr2.2.1 q hq
  dsimp only [Option.toList, List.nil_append]
  refine x_putO (pc := 59) hC pf_X11_43 dX11_init_59 (Or.inl ⟨_, rfl⟩) (by simp (disch := omega) only [axn_a, axn_s, axu_s, axu_a, axu_j, axu_row, tT1, tN1, tI1, tR1, uT1, tT2, tN2, tI2, tR2, uT2]; exact ha) (fun _ => rfl) ?_
  refine x_aload_n (pc := 62) hC dX11_init_62 rfl ?_
  refine x_new (pc := 63) hC nw_X11_40 dX11_init_63 (by omega) (by omega) ?_
  refine x_dup (pc := 66) hC dX11_init_66 rfl ?_
  refine x_callI (pc := 67) hC ci_X11_42 dX11_init_67 (c_init2 (m := a + 137) axn_s (by omega)) rfl (by decide) (by omega) (by omega) rfl rfl (Nat.le_of_ble_eq_true rfl) (fun _ _ _ _ _ _ hq => ?_)
  rename_i r3 T3 N3 I3 R3 z3
  obtain ⟨rfl, rfl, hr3, hs3⟩ := hq
  have tT3 : ∀ q, q < a + 137 → T3 q = _ := fun q hq => (hr3.1 q hq).1
  have tN3 : ∀ q, q < a + 137 → N3 q = _ := fun q hq => (hr3.1 q hq).2.1
  have tI3 : ∀ q, q < a + 137 → I3 q = _ := fun q hq => (hr3.1 q hq).2.2.1
  have tR3 : ∀ q, q < a + 137 → R3 q = _ := fun q hq => (hr3.1 q hq).2.2.2
  have uT3 : ∀ q, a + 137 + 39 ≤ q → T3 q = _ := fun q hq => hr3.2.1 q hq
  dsimp only [Option.toList, List.nil_append]
  refine x_putO (pc := 70) hC pf_X11_47 dX11_init_70 (Or.inl ⟨_, rfl⟩) (by simp (disch := omega) only [axn_a, axn_s, axu_s, axu_a, axu_j, axu_row, tT1, tN1, tI1, tR1, uT1, tT2, tN2, tI2, tR2, uT2, tT3, tN3, tI3, tR3, uT3]; exact ha) (fun _ => rfl) ?_
  refine x_aload_n (pc := 73) hC dX11_init_73 rfl ?_
  refine x_bipush (pc := 74) hC dX11_init_74 (by decide) ?_
  refine x_newi (pc := 76) hC w_arrI dX11_init_76 (by omega) (by omega) (by omega) (by omega) ?_
  refine x_putO (pc := 78) hC pf_X11_50 dX11_init_78 (Or.inr ⟨_, rfl⟩) (by simp (disch := omega) only [axn_a, axn_s, axu_s, axu_a, axu_j, axu_row, tT1, tN1, tI1, tR1, uT1, tT2, tN2, tI2, tR2, uT2, tT3, tN3, tI3, tR3, uT3]; exact ha) (fun _ => rfl) ?_
  refine x_iconst (pc := 81) hC dX11_init_81 ?_
  refine x_istore_n (pc := 82) hC dX11_init_82 (Nat.le_of_ble_eq_true rfl) ?_
  dsimp only [List.set]
  refine loop1 _ 0 _ _ _ _ _ _ _ (Nat.le_refl _) (by omega) (by omega) (by omega) (by omega) (by omega) ⟨⟨by omega, hb0⟩, ⟨⟨?_, ?_⟩, hnl.2⟩, fun q hq => ?_, ?_, ⟨?_, ?_⟩, ⟨?_, ?_, ?_⟩, ?_, ?_, ?_⟩ ⟨⟨?_, ?_, ?_⟩, ⟨?_, mgT_eq hs1 (fun q a1 a2 => ⟨?_, ?_⟩) (fun q a1 a2 _ => ?_) (fun j _ => ?_), fun j => ?_⟩, ⟨?_, mtT_eq hs2 (fun q a1 a2 => ⟨?_, ?_, ?_⟩)⟩, ⟨?_, mtT_eq hs3 (fun q a1 a2 => ⟨?_, ?_, ?_⟩)⟩, ⟨?_, ?_, ?_⟩, fun k hk => by omega⟩ ⟨?_, ?_, ?_, ?_, fun k hk => by omega⟩ ⟨fun q hq => ⟨?_, ?_, ?_, ?_⟩, fun q hq => ?_, ?_, ?_⟩
  case refine_3 =>
    rcases Nat.lt_or_ge q (a + 137 + 39 + 1) with h9 | h9
    · exact h9
    · exfalso
      apply hq
      simp (disch := omega) only [axn_a, axn_s, axu_s, axu_a, axu_j, axu_row, tT1, tN1, tI1, tR1, uT1, tT2, tN2, tI2, tR2, uT2, tT3, tN3, tI3, tR3, uT3]
      exact htz q (by omega)
  all_goals first | (simp (disch := omega) only [axn_a, axn_s, axu_s, axu_a, axu_j, axu_row, tT1, tN1, tI1, tR1, uT1, tT2, tN2, tI2, tR2, uT2, tT3, tN3, tI3, tR3, uT3]; done) | (simp (disch := omega) only [axn_a, axn_s, axu_s, axu_a, axu_j, axu_row, tT1, tN1, tI1, tR1, uT1, tT2, tN2, tI2, tR2, uT2, tT3, tN3, tI3, tR3, uT3]; assumption) | (simp (disch := omega) only [axn_a, axn_s, axu_s, axu_a, axu_j, axu_row, tT1, tN1, tI1, tR1, uT1, tT2, tN2, tI2, tR2, uT2, tT3, tN3, tI3, tR3, uT3]; exact hnl.1.1) | (simp (disch := omega) only [axn_a, axn_s, axu_s, axu_a, axu_j, axu_row, tT1, tN1, tI1, tR1, uT1, tT2, tN2, tI2, tR2, uT2, tT3, tN3, tI3, tR3, uT3]; exact hnl.1.2) | (simp (disch := omega) only [axn_a, axn_s, axu_s, axu_a, axu_j, axu_row, tT1, tN1, tI1, tR1, uT1, tT2, tN2, tI2, tR2, uT2, tT3, tN3, tI3, tR3, uT3]; exact hn1 j) | (simp (disch := omega) only [axn_a, axn_s, axu_s, axu_a, axu_j, axu_row, tT1, tN1, tI1, tR1, uT1, tT2, tN2, tI2, tR2, uT2, tT3, tN3, tI3, tR3, uT3]; exact hI 2) | (simp (disch := omega) only [axn_a, axn_s, axu_s, axu_a, axu_j, axu_row, tT1, tN1, tI1, tR1, uT1, tT2, tN2, tI2, tR2, uT2, tT3, tN3, tI3, tR3, uT3]; exact hI 11) | (rw [show a + 6 = a + 5 + 1 from rfl]; simp (disch := omega) only [axn_a, axn_s, axu_s, axu_a, axu_j, axu_row, tT1, tN1, tI1, tR1, uT1, tT2, tN2, tI2, tR2, uT2, tT3, tN3, tI3, tR3, uT3]; exact hn1 j)  | (simp (disch := omega) only [axn_a, axn_s, axu_s, axu_a, axu_j, axu_row, tT1, tN1, tI1, tR1, uT1, tT2, tN2, tI2, tR2, uT2, tT3, tN3, tI3, tR3, uT3]; rw [hi1]; simp (disch := omega) only [axn_a, axn_s, axu_s, axu_a, axu_j, axu_row, tT1, tN1, tI1, tR1, uT1, tT2, tN2, tI2, tR2, uT2, tT3, tN3, tI3, tR3, uT3])

