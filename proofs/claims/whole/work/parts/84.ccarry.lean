/-! THE CLASS: a replay is carried on -/
/-- what holds of the numbers all along a replay -/
def cI (σ : Nat → Int → Int) (o : Nat) : Prop := gI σ o ∧ miS σ o ∧ (σ o 2 + (σ o 46 - σ o 47) ≤ 24) ∧ (σ o 43 = σ o 42 ∨ σ o 44 ≤ σ o 43) ∧ σ o 42 < σ o 44 ∧ σ o 44 ≤ σ o 2 ∧ σ (o + 6) 0 = 0 ∧ σ o 40 = 0
theorem miS_fr {σ X : Nat → Int → Int} {o : Nat} (h : miS σ o) (h3 : X o 3 = σ o 3) (h4 : X (o + 4) = σ (o + 4)) (hq : ∀ q, o + 31 ≤ q → q ≤ o + 36 → X q = σ q) : miS X o := by
  unfold miS at *
  rw [hq (o + 31) (by omega) (by omega), hq (o + 32) (by omega) (by omega), hq (o + 33) (by omega) (by omega), hq (o + 34) (by omega) (by omega), hq (o + 35) (by omega) (by omega), hq (o + 36) (by omega) (by omega), h3, h4]
  exact h
theorem cI_L {σ : Nat → Int → Int} {o : Nat} (h : cI σ o) (h47 : σ o 47 < σ o 46) : cI (goL σ o) o := by
  obtain ⟨c1, c2, c3, c4, c5, c6, c7, c8⟩ := h
  have eo : ∀ k, k ≠ 47 → goL σ o o k = σ o k := fun k hk => by unfold goL nxt; rw [axu_j hk, axu_a (by omega)]
  have e47 : goL σ o o 47 = σ o 47 + 1 := by unfold goL nxt; rw [axu_s, axu_a (by omega)]
  have eq : ∀ q, q ≠ o → q ≠ o + 29 → goL σ o q = σ q := fun q h1 h2 => by unfold goL nxt; rw [axu_row h1, axu_row h2]
  refine ⟨gI_nxt (gI_u29 c1) (by rw [axu_a (by omega), axu_a (by omega)]; exact h47), miS_fr c2 (eo 3 (by decide)) (eq _ (by omega) (by omega)) (fun q h1 h2 => eq q (by omega) (by omega)), ?_, ?_, ?_, ?_, ?_, by rw [eo 40 (by decide)]; exact c8⟩
  · rw [eo 2 (by decide), eo 46 (by decide), e47]; omega
  · rw [eo 42 (by decide), eo 43 (by decide), eo 44 (by decide)]; exact c4
  · rw [eo 42 (by decide), eo 44 (by decide)]; exact c5
  · rw [eo 2 (by decide), eo 44 (by decide)]; exact c6
  · rw [eq _ (by omega) (by omega)]; exact c7
theorem cI_P {σ : Nat → Int → Int} {o : Nat} (h : cI σ o) (h47 : σ o 47 < σ o 46) {c q : Int} {L : List Int} (hL : (L.length : Int) ≤ 16) (hn : isLn L) : cI (nxt (puF σ o c L q) o) o ∧ puF σ o c L q o 46 = σ o 46 ∧ puF σ o c L q o 47 = σ o 47 := by
  obtain ⟨c1, c2, c3, c4, c5, c6, c7, c8⟩ := h
  have hC1 := c1.1.1
  have hl := c1.1.2.1.2
  have g1 := gI_pu (c := c) (q := q) c1 (by omega) hL hn
  obtain ⟨X, hX⟩ : ∃ X, X = puF σ o c L q := ⟨_, rfl⟩
  rw [← hX] at g1 ⊢
  have key : ((X o 2 = σ o 2 ∧ X o 3 = σ o 3 ∧ X (o + 4) = σ (o + 4) ∧ X o 43 = σ o 43) ∨ (X o 2 = σ o 2 + 1 ∧ X o 3 = σ o 3 + 1 ∧ (∀ d, 0 ≤ X (o + 4) d ∧ X (o + 4) d ≤ σ o 3 + 1) ∧ X o 43 = σ o 2)) ∧ (∀ k, k = 42 ∨ k = 44 ∨ k = 46 ∨ k = 47 ∨ k = 40 → X o k = σ o k) ∧ (∀ x, o + 31 ≤ x → x ≤ o + 36 → X x = σ x) ∧ X (o + 6) 0 = 0 := by
    have h4 := c2.2.2.2.2.2.2
    unfold puF at hX
    by_cases hA : σ (o + 1) c = 0 ∧ rowL σ o (σ o 43) = L
    · rw [if_pos hA] at hX
      have eX : ∀ x, x ≠ o + 29 → X x = σ x := fun x hx => by rw [hX]; unfold puA; rw [axu_row hx, axu_row hx]
      exact ⟨Or.inl ⟨by rw [eX o (by omega)], by rw [eX o (by omega)], eX _ (by omega), by rw [eX o (by omega)]⟩, fun k _ => by rw [eX o (by omega)], fun x h1 h2 => eX x (by omega), by rw [eX _ (by omega)]; exact c7⟩
    · rw [if_neg hA] at hX
      by_cases hB : σ (o + 1) c = 2 ∧ σ o 44 ≤ σ o 43
      · rw [if_pos hB] at hX
        have hB2 := hB.2
        have p42 := c1.2.2.2.2.2.1
        have eX : ∀ x, x ≠ o + 29 → x ≠ o + 5 → x ≠ o + 6 → X x = σ x := fun x hx h5 h6 => by rw [hX, axu_row hx, lay_row h5 h6]; unfold puA; rw [axu_row hx]
        refine ⟨Or.inl ⟨by rw [eX o (by omega) (by omega) (by omega)], by rw [eX o (by omega) (by omega) (by omega)], eX _ (by omega) (by omega) (by omega), by rw [eX o (by omega) (by omega) (by omega)]⟩, fun k _ => by rw [eX o (by omega) (by omega) (by omega)], fun x h1 h2 => eX x (by omega) (by omega) (by omega), ?_⟩
        rw [hX, axu_a (by omega), lay_s, if_neg (by omega)]
        unfold puA
        rw [axu_a (by omega)]
        exact c7
      · rw [if_neg hB] at hX
        have p2 : puA σ o q o 2 = σ o 2 := by unfold puA; rw [axu_a (by omega)]
        have pq : ∀ x, x ≠ o + 29 → puA σ o q x = σ x := fun x hx => by unfold puA; rw [axu_row hx]
        obtain ⟨Y, hY⟩ : ∃ Y, Y = layI (mdI (puA σ o q) o (σ (o + 1) c) (σ o 43) c) o (σ o 2) L := ⟨_, rfl⟩
        have hXY : X = ax_u (ax_u Y o 43 (σ o 2)) (o + 29) 0 (σ (o + 29) 0 + 1) := by rw [hX, lay_43, ← hY]
        obtain ⟨⟨q1, q2, q3, q4⟩, ⟨q5, q6, q7, q8, q9, q10⟩, -, -, q13⟩ := md_x (σ := puA σ o q) (o := o) (k := σ (o + 1) c) (p := σ o 43) (g := c) (n := (L.length : Int)) (F := fun j => lf L (j - 16 * puA σ o q o 2)) (fun d => by rw [pq _ (by omega)]; exact hl d) (by omega) (X := Y) (by rw [hY, p2]; rfl)
        rw [p2] at q1 q5 q9
        rw [pq o (by omega)] at q3 q9
        have eo : ∀ k, k ≠ 43 → X o k = Y o k := fun k hk => by rw [hXY, axu_a (by omega), axu_j hk]
        have er : ∀ x, x ≠ o → x ≠ o + 29 → X x = Y x := fun x h1 h2 => by rw [hXY, axu_row h2, axu_row h1]
        refine ⟨Or.inr ⟨by rw [eo 2 (by decide), q1], by rw [eo 3 (by decide), q3], fun d => ?_, by rw [hXY, axu_a (by omega), axu_s]⟩, fun k hk => by rw [eo k (by omega), q4 k (by omega) (by omega) (by omega), pq o (by omega)], fun x h1 h2 => by rw [er x (by omega) (by omega), q13 x (by omega), pq x (by omega)], ?_⟩
        · rw [er _ (by omega) (by omega)]
          by_cases hd : d = σ o 2
          · rw [hd, q9]
            have := h4 0
            omega
          · rw [(q5 d hd).2.2.2.1, pq _ (by omega)]
            have := h4 d
            omega
        · rw [er _ (by omega) (by omega), (q5 0 (by omega)).2.2.2.2, pq _ (by omega)]
          exact c7
  obtain ⟨k1, k2, k3, k4⟩ := key
  have eo : ∀ k, k ≠ 47 → nxt X o o k = X o k := fun k hk => axu_j hk
  have e47 : nxt X o o 47 = X o 47 + 1 := axu_s
  have eq : ∀ x, x ≠ o → nxt X o x = X x := fun x hx => axu_row hx
  have h6 := c2.2.2.2.2.2.1
  refine ⟨⟨gI_nxt g1 (by rw [k2 47 (by omega), k2 46 (by omega)]; exact h47), ?_, ?_, ?_, ?_, ?_, ?_, by rw [eo 40 (by decide), k2 40 (by omega)]; exact c8⟩, k2 46 (by omega), k2 47 (by omega)⟩
  · unfold miS
    rw [eq (o + 31) (by omega), eq (o + 32) (by omega), eq (o + 33) (by omega), eq (o + 34) (by omega), eq (o + 35) (by omega), eq (o + 36) (by omega), eq (o + 4) (by omega), eo 3 (by decide), k3 (o + 31) (by omega) (by omega), k3 (o + 32) (by omega) (by omega), k3 (o + 33) (by omega) (by omega), k3 (o + 34) (by omega) (by omega), k3 (o + 35) (by omega) (by omega), k3 (o + 36) (by omega) (by omega)]
    obtain ⟨s1, s2, s3, s4, s5, s6, s7⟩ := c2
    rcases k1 with ⟨-, e3, e4, -⟩ | ⟨-, e3, e4, -⟩
    · rw [e3, e4]; exact ⟨s1, s2, s3, s4, s5, s6, s7⟩
    · rw [e3]; exact ⟨s1, s2, s3, s4, s5, fun s => ⟨(s6 s).1, by have := (s6 s).2; omega⟩, e4⟩
  · rw [eo 2 (by decide), eo 46 (by decide), e47, k2 46 (by omega), k2 47 (by omega)]
    rcases k1 with ⟨e2, -⟩ | ⟨e2, -⟩ <;> rw [e2] <;> omega
  · rw [eo 42 (by decide), eo 43 (by decide), eo 44 (by decide), k2 42 (by omega), k2 44 (by omega)]
    rcases k1 with ⟨-, -, -, e43⟩ | ⟨-, -, -, e43⟩
    · rw [e43]; exact c4
    · rw [e43]; exact Or.inr c6
  · rw [eo 42 (by decide), eo 44 (by decide), k2 42 (by omega), k2 44 (by omega)]; exact c5
  · rw [eo 2 (by decide), eo 44 (by decide), k2 44 (by omega)]
    rcases k1 with ⟨e2, -⟩ | ⟨e2, -⟩ <;> rw [e2] <;> omega
  · rw [eq _ (by omega)]; exact k4
theorem mgStep_ln {rs : List (List Int × List Int)} (hrs : rsSm rs) {a b t : Int → Int} {na : Int} (ha : ∀ i j, 0 ≤ i → isLn (seg a i j)) (hb : ∀ i j, 0 ≤ i → isLn (seg b i j)) (ht : ∀ i j, 0 ≤ i → isLn (seg t i j)) : ∀ (l : List Gp) (s : List Int × Int × List Gp), (∀ g ∈ l, 0 ≤ g.1 ∧ 0 ≤ g.2.1 ∧ 0 ≤ g.2.2.1 ∧ 0 ≤ g.2.2.2.2.1) → isLn s.1 → isLn (l.foldl (mgStep rs a b t na) s).1 := by
  intro l
  induction l with
  | nil => intro s _ h; exact h
  | cons x l ih =>
    intro s hl h
    obtain ⟨x1, x2, x3, x4⟩ := hl x (by simp)
    refine ih _ (fun g hg => hl g (by simp [hg])) ?_
    have h1 := gapV_ln hrs (ha x.1 x.2.1 x1) (hb x.2.2.1 x.2.2.2.1 x3) (ht x.2.2.2.2.1 x.2.2.2.2.2 x4)
    show isLn (s.1 ++ (gapV rs _ _ _).1 ++ _)
    refine (h.app h1).app ?_
    split
    · exact fun v hv => by
        have h2 := ha x.2.1 (x.2.1 + 1) x2
        rw [seg_cons (by omega)] at h2
        simp at hv
        rw [hv]
        exact h2 _ (by simp)
    · exact isLn.nil
theorem mrgL_ln {rs : List (List Int × List Int)} (hrs : rsSm rs) {A B C : List Int} (hA : isLn A) (hB : isLn B) (hC : isLn C) : isLn (mrgL rs A B C).1 := by
  have key : ∀ (L : List Int), isLn L → ∀ i j, 0 ≤ i → isLn (seg (lf L) i j) := fun L hL i j hi v hv => by
    obtain ⟨k, k0, k1, rfl⟩ := seg_mem.mp hv
    unfold lf
    rw [List.getD_eq_getElem?_getD]
    cases hg : L[k.toNat]? with
    | none => simp
    | some u => exact hL u (List.mem_of_getElem? hg)
  unfold mrgL mrg
  refine mgStep_ln hrs (key _ hA) (key _ hB) (key _ hC) _ _ (fun g hg => ?_) isLn.nil
  obtain ⟨⟨i1, i2, i3⟩, ⟨i4, i5⟩, i6, i7⟩ := gapsL_in (na := (A.length : Int)) (fun k => mtP_in _ _ (by omega) k) (fun k => mtP_in _ _ (by omega) k) _ _ _ _ _ (Int.le_refl _) (by omega) (Int.le_refl _) (Int.le_refl _) (Int.le_refl _) g hg
  exact ⟨i1, i2, i4, i6⟩
theorem goM_ln {σ : Nat → Int → Int} {o : Nat} (g : gI σ o) : isLn (goM σ o).1 := by
  have hl : ∀ c, isLn (rowL σ o c) := fun c => seg_isLn (fun j => g.1.2.1.1 _) _ _
  exact mrgL_ln (rsSm_N (rsN_of g.2.1).1) (hl _) (hl _) (hl _)
theorem e_chgC {σ : Nat → Int → Int} {o : Nat} {e c : Int} : chgC (ax_u σ o 40 e) o c = chgC σ o c := by
  unfold chgC pcsC rwI
  rw [e_row (by omega), e_row (by omega), e_row (by omega)]
theorem thR_mem {σ : Nat → Int → Int} {o : Nat} (g : gI σ o) {y : Int} : y ∈ thR σ o ↔ y ∈ thL σ o (σ o 41) (σ o 42) := by
  have hp := g.2.2
  unfold thR thL
  rw [List.mem_filter, List.mem_filter]
  constructor
  · rintro ⟨h1, h2⟩
    have h3 := path_in g.1.2.2.1 _ _ y (Nat.le_refl _) hp.2.2.2.1.2 h1
    refine ⟨seg_mem.mpr ⟨y, h3.1, by have := hp.2.2.2.1.2; omega, rfl⟩, ?_⟩
    simp only [Bool.and_eq_true]
    exact ⟨by simpa using h1, h2⟩
  · rintro ⟨h1, h2⟩
    simp only [Bool.and_eq_true] at h2
    exact ⟨by simpa using h2.1, h2.2⟩

set_option maxHeartbeats 4000000 in
set_option maxRecDepth 100000 in
theorem c_carry_loop {G : ax_G} {f : ax_F} (hC : axC G f YX11_carry YX11_carry.1.cls 7 48 528) {a o : Nat} {e : Int} {TT : Nat → Nat} {NN : Nat → Int} {II : Nat → Int → Int} {RR : Nat → Int → Option Nat} {zz : Nat} {W : Int × (Nat → Int → Int)} : ∀ (n : Nat) (fl : Int) (T : Nat → Nat) (N : Nat → Int) (I : Nat → Int → Int) (R : Nat → Int → Option Nat) (z : Nat) (σ : Nat → Int → Int) (A w : Int → Nat) (c2 c3 : ax_V) (k9 n9 : Nat), (σ o 46 - σ o 47).toNat = n → Mid G T N I R z a o σ A w e → cI σ o → (fl = 0 → 0 < n → ¬ thP σ o (goX σ o) (σ o 41) (σ o 42)) → W = goF o n fl σ → fro a o TT NN II RR T N I R → zz ≤ z → 2 * n ≤ k9 → 22 * n ≤ n9 → axX G f 48 528 (fun r1 T1 N1 I1 R1 z1 => ∃ s σ2 A1 w1, r1 = some (vI s) ∧ fro a o TT NN II RR T1 N1 I1 R1 ∧ zz ≤ z1 ∧ Mid G T1 N1 I1 R1 z1 a o σ2 A1 w1 e ∧ cI σ2 o ∧ W = (if s = 0 then (0, ax_u σ2 (o + 7) (σ2 o 41) (σ2 o 43)) else (s, ax_u σ2 o 40 s)) ∧ (s = 0 ∨ s = 1 ∨ s = 2) ∧ (s ≠ 0 → σ2 o 47 < σ2 o 46 ∧ ¬ thP σ2 o (goX σ2 o) (σ2 o 41) (σ2 o 42))) 0 [vR a, vR (a + 183), c2, c3] [] T N I R z k9 n9 := by

  intro n
  induction n with
  | zero =>
    intro fl T N I R z σ A w c2 c3 k9 n9 hn h c hfl hW hfr hz hk9 hn9
    have hx1 := rl_fx h.1
    have rpq := h.2.1.2.1
    have c1 := c.1.2.2.1
    refine x_aload_n (pc := 0) hC dX11_carry_0 rfl ?_
    refine x_getI (pc := 1) hC gf_X11_260 dX11_carry_1 (fx_cu hx1).2.1.1 ?_
    rw [rpq]
    refine x_if_lt (pc := 4) hC 60 dX11_carry_4 (by decide) (by omega) (fun b4 => ?_) (fun b4 => ?_)
    · refine x_iconst (pc := 60) hC dX11_carry_60 ?_
      refine x_iret (pc := 61) hC rfl dX11_carry_61 ?_
      refine ⟨0, σ, A, w, rfl, hfr, hz, h, c, ?_, Or.inl rfl, fun h9 => absurd rfl h9⟩
      rw [hW, if_pos rfl]
      rfl
    · exfalso; omega
  | succ n ih =>
    intro fl T N I R z σ A w c2 c3 k9 n9 hn h c hfl hW hfr hz hk9 hn9
    have hx1 := rl_fx h.1
    have b1 := fx_b1 hx1
    have rpq := h.2.1.2.1
    have c1 := c.1.2.2.1
    have h47 : σ o 47 < σ o 46 := by omega
    have cm3 := c.2.2.1
    have gx : 0 < goX σ o ∧ goX σ o < σ o 2 := c.1.2.2.2.1 (σ o 47) c1.1 h47
    have m0 : ax_u σ o 40 e o 2 = σ o 2 := e_fld (by decide)
    have cx : 0 ≤ goX σ o ∧ goX σ o < ax_u σ o 40 e o 2 := by rw [m0]; exact ⟨Int.le_of_lt gx.1, gx.2⟩
    have kx := (rl_wo h.1 cx.1 cx.2).2.2.2.1
    have hwk : axE G YX6_commitAtWork 0 [vR (a + 183)] T N I R z (some (vR (A (goX σ o)))) I := by
      have kw := h.2.2.2.1
      have := c_commitAtWork (G := G) (T := T) (N := N) (I := I) (R := R) (z := z) (fx_cu hx1).2.1 (by rw [rpq]; constructor <;> omega)
      rw [if_pos (by omega), rpq, kw _ (by omega) (by omega), show σ o 46 - 1 - (σ o 46 - 1 - σ o 47) = σ o 47 by omega] at this
      exact this
    have : Decidable ((ax_u σ o 40 e) (o + 1) (goX σ o) = 0 ∧ ∃ y ∈ thR σ o, chgC (ax_u σ o 40 e) o (goX σ o) = chgC (ax_u σ o 40 e) o y) := Classical.propDecidable _
    have hth : ((ax_u σ o 40 e) (o + 1) (goX σ o) = 0 ∧ ∃ y ∈ thR σ o, chgC (ax_u σ o 40 e) o (goX σ o) = chgC (ax_u σ o 40 e) o y) ↔ thP σ o (goX σ o) (σ o 41) (σ o 42) := by
      rw [e_row (by omega)]
      constructor
      · rintro ⟨y1, y, y2, y3⟩
        rw [e_chgC, e_chgC] at y3
        exact ⟨y1, y, (thR_mem c.1).mp y2, y3⟩
      · rintro ⟨y1, y, y2, y3⟩
        refine ⟨y1, y, (thR_mem c.1).mpr y2, ?_⟩
        rw [e_chgC, e_chgC]; exact y3
    have hit := c_isThere (G := G) (z := z) (TH := thR σ o) (x := goX σ o) h.1 (e_miC c.1.1) (by rw [e_row (by omega)]; exact c.2.2.2.2.2.2.1) (fx_cu hx1).2.1 (Or.inl ⟨rfl, rfl⟩) cx h.2.1.2.2.1 (by
      have h1 : (thR σ o).length ≤ (path (σ (o + 2)) (σ o 42)).length := List.length_filter_le _ _
      have h2 := path_len c.1.1 c.1.2.2.2.2.2.1
      omega) h.2.2.2.2.1 (fun v hv => by
      rw [m0]
      have h1 := (List.mem_filter.mp hv).1
      have h2 := path_in c.1.1.2.2.1 _ _ v (Nat.le_refl _) c.1.2.2.2.2.2.1.2 h1
      have h3 := c.1.2.2.2.2.2.1.2
      omega)
    have hfg : ∀ {I' : Nat → Int → Int} {R' : Nat → Int → Option Nat}, Mid G T N I' R' z a o σ A w e → I' (a + 184 + 2) 1 = σ (o + 29) 1 := fun h9 => by have := rl_fg h9.1 1 (by omega) (by omega); rw [e_row (by omega)] at this; exact this
    refine x_aload_n (pc := 0) hC dX11_carry_0 rfl ?_
    refine x_getI (pc := 1) hC gf_X11_260 dX11_carry_1 (fx_cu hx1).2.1.1 ?_
    rw [rpq]
    refine x_if_lt (pc := 4) hC 60 dX11_carry_4 (by decide) (by omega) (fun b4 => ?_) (fun b4 => ?_)
    · exfalso; omega
    · refine x_aload_n (pc := 7) hC dX11_carry_7 rfl ?_
      refine x_mV (pc := 8) hC cv_X11_273 dX11_carry_8 hwk (fx_cu hx1).2.1.1 rfl (by decide) rfl rfl (Nat.le_of_ble_eq_true rfl) ?_
      dsimp only [Option.toList, List.cons_append, List.nil_append]
      refine x_astore_n (pc := 11) hC dX11_carry_11 (Nat.le_of_ble_eq_true rfl) ?_
      dsimp only [List.set]
      refine x_aload_n (pc := 12) hC dX11_carry_12 rfl ?_
      refine x_aload_n (pc := 13) hC dX11_carry_13 rfl ?_
      refine x_aload_n (pc := 14) hC dX11_carry_14 rfl ?_
      refine x_rV (pc := 15) hC cv_X11_373 dX11_carry_15 hit (fx_ta hx1) rfl (by decide) rfl rfl (Nat.le_of_ble_eq_true rfl) ?_
      rintro v9 J S ⟨rfl, s1, -⟩
      dsimp only [Option.toList, List.cons_append, List.nil_append]
      have h2 := h.sc s1
      have hx2 := rl_fx h2.1
      refine x_ifB_eq (pc := 18) hC 34 dX11_carry_18 (by decide) (fun b18 => ?_) (fun b18 => ?_)
      · refine x_aload_n (pc := 34) hC dX11_carry_34 rfl ?_
        refine x_aload_n (pc := 35) hC dX11_carry_35 rfl ?_
        refine x_aload_n (pc := 36) hC dX11_carry_36 rfl ?_
        refine x_callV (pc := 37) hC cv_X11_377 dX11_carry_37 (c_place h2 c.1 c.2.1 h47 (by omega) c.2.2.2.1 c.2.2.2.2.1) (fx_ta hx1) rfl (by decide) (by omega) (by omega) rfl rfl (Nat.le_of_ble_eq_true rfl) (fun _ _ _ _ _ _ hq => ?_)
        obtain ⟨rfl, f3, z3, A3, w3, h3⟩ := hq
        dsimp only [Option.toList, List.cons_append, List.nil_append]
        have hx3 := rl_fx h3.1
        have hsr := stp_r (goM σ o)
        refine x_istore_n (pc := 40) hC dX11_carry_40 (Nat.le_of_ble_eq_true rfl) ?_
        dsimp only [List.set]
        refine x_iload_n (pc := 41) hC dX11_carry_41 rfl ?_
        refine x_if_eq (pc := 42) hC 47 dX11_carry_42 (by decide) (by omega) (fun b42 => ?_) (fun b42 => ?_)
        · have hnt : ¬ thP σ o (goX σ o) (σ o 41) (σ o 42) := fun h9 => b18 (hth.mpr h9)
          have hst : stp (goM σ o) = 0 := by first | exact b42 | exact Decidable.of_not_not b42
          rw [if_pos hst] at h3
          have hx3 := rl_fx h3.1
          have hML : ((goM σ o).1.length : Int) ≤ 16 := by
            unfold stp at hst
            by_cases e1 : (goM σ o).2.2.length > 0
            · rw [if_pos e1] at hst; omega
            · rw [if_neg e1] at hst
              by_cases e2 : (goM σ o).1.length > 16
              · rw [if_pos e2] at hst; omega
              · omega
          have hMn : isLn (goM σ o).1 := goM_ln c.1
          obtain ⟨cP, p46, p47⟩ := cI_P c h47 (c := goX σ o) (q := (goM σ o).2.1) (L := (goM σ o).1) hML hMn
          refine x_aload_n (pc := 47) hC dX11_carry_47 rfl ?_
          refine x_dup (pc := 48) hC dX11_carry_48 rfl ?_
          refine x_getI (pc := 49) hC gf_X11_260 dX11_carry_49 (fx_cu hx3).2.1.1 ?_
          refine x_iconst (pc := 52) hC dX11_carry_52 ?_
          refine x_isub (pc := 53) hC dX11_carry_53 ?_
          refine x_putI (pc := 54) hC pf_X11_260 dX11_carry_54 (fx_cu hx3).2.1.1 (by decide) ?_
          refine x_goto (pc := 57) hC 0 dX11_carry_57 (by decide) ?_
          refine ih 1 _ _ _ _ _ _ _ _ _ _ _ _ ?_ h3.at cP (fun h9 => absurd h9 (by decide)) ?_ (((hfr.tr (fro_sc s1 b1)).tr f3).tr (fun q hq => ⟨rfl, rfl, by rw [axu_row (by omega)], rfl⟩)) (by omega) (by omega) (by omega)
          · unfold nxt
            rw [axu_j (by decide), axu_s, p46, p47]
            omega
          · rw [hW]
            simp only [goF]
            rw [if_neg (fun h9 => hnt h9.2), if_pos hst]
            rfl
        · refine x_iload_n (pc := 45) hC dX11_carry_45 rfl ?_
          refine x_iret (pc := 46) hC rfl dX11_carry_46 ?_
          have hnt : ¬ thP σ o (goX σ o) (σ o 41) (σ o 42) := fun h9 => b18 (hth.mpr h9)
          rw [if_neg (by assumption)] at h3
          refine ⟨stp (goM σ o), σ, A3, w3, rfl, hfr.tr ((fro_sc s1 b1).tr f3), by omega, h3, c, ?_, by omega, fun _ => ⟨h47, hnt⟩⟩
          rw [hW, if_neg (by assumption)]
          simp only [goF]
          rw [if_neg (fun h9 => hnt h9.2), if_neg (by assumption)]
      · refine x_aload_n (pc := 21) hC dX11_carry_21 rfl ?_
        refine x_getO (pc := 22) hC gf_X11_210 dX11_carry_22 (fx_cu hx1).2.1.1 (fx_cu hx2).2.1.2.2.2.1.1 ?_
        refine x_iconst (pc := 25) hC dX11_carry_25 ?_
        refine x_dup2 (pc := 26) hC dX11_carry_26 rfl rfl ?_
        refine x_iald (pc := 27) hC dX11_carry_27 (fx_cu hx2).2.1.2.2.2.1.2.1 (by omega) (by rw [(fx_cu hx2).2.1.2.2.2.1.2.2]; omega) ?_
        refine x_iconst (pc := 28) hC dX11_carry_28 ?_
        rw [hfg h2]
        refine x_iadd (pc := 29) hC dX11_carry_29 ?_
        refine x_iast (pc := 30) hC dX11_carry_30 (fx_cu hx2).2.1.2.2.2.1.2.1 (by omega) (by rw [(fx_cu hx2).2.1.2.2.2.1.2.2]; omega) ?_
        refine x_goto (pc := 31) hC 47 dX11_carry_31 (by decide) ?_
        have hthp := hth.mp b18
        have hfl1 : fl ≠ 0 := fun h9 => hfl h9 (by omega) hthp
        have h3 := h2.fig (j := 1) (v := σ (o + 29) 1 + 1) (by omega)
        have hx3 := rl_fx h3.1
        refine x_aload_n (pc := 47) hC dX11_carry_47 rfl ?_
        refine x_dup (pc := 48) hC dX11_carry_48 rfl ?_
        refine x_getI (pc := 49) hC gf_X11_260 dX11_carry_49 (fx_cu hx3).2.1.1 ?_
        refine x_iconst (pc := 52) hC dX11_carry_52 ?_
        refine x_isub (pc := 53) hC dX11_carry_53 ?_
        refine x_putI (pc := 54) hC pf_X11_260 dX11_carry_54 (fx_cu hx3).2.1.1 (by decide) ?_
        refine x_goto (pc := 57) hC 0 dX11_carry_57 (by decide) ?_
        refine ih 1 _ _ _ _ _ _ _ _ _ _ _ _ ?_ h3.at (cI_L c h47) (fun h9 => absurd h9 (by decide)) ?_ ((hfr.tr (fro_sc s1 b1)).tr (fun q hq => ⟨rfl, rfl, by rw [axu_row (by omega), axu_row (by omega)], rfl⟩)) hz (by omega) (by omega)
        · show (nxt (ax_u σ (o + 29) 1 (σ (o + 29) 1 + 1)) o o 46 - nxt (ax_u σ (o + 29) 1 (σ (o + 29) 1 + 1)) o o 47).toNat = n
          unfold nxt
          rw [axu_j (by decide), axu_s, axu_a (by omega), axu_a (by omega)]
          omega
        · rw [hW]
          simp only [goF]
          rw [if_pos ⟨hfl1, hthp⟩]
          rfl

