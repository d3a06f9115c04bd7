/-! THE CLASS: a commit is made: the relation -/
theorem mkI_o {I : Nat → Int → Int} {z a : Nat} {k : Int} {q : Option Nat} {x : Nat} (h1 : x ≠ z) (h2 : x ≠ a) (h3 : x ≠ a + 1) : mkI I z a k q x = I x := by
  unfold mkI; rw [axu_row h2, axu_row h3, axu_row h1, axn_a h1]
theorem mkS_o {R : Nat → Int → Option Nat} {z a : Nat} {p r q : Option Nat} {x : Nat} (h1 : x ≠ z) : mkS R z a p r q x = R x := by
  unfold mkS; rw [axu_row h1, axu_row h1, axu_row h1, axu_row h1, axn_a h1]
theorem rl_md {G : ax_G} {T : Nat → Nat} {N : Nat → Int} {I : Nat → Int → Int} {R : Nat → Int → Option Nat} {z a o : Nat} {σ : Nat → Int → Int} {A w : Int → Nat} (h : RelA G T N I R z a o σ A w) (hMS : miS σ o) {k g : Int} {X : Nat → Int → Int} {r : Nat} {p q : Option Nat} {L : List Int} (hm : 0 ≤ σ o 2 ∧ σ o 2 < 24) (hk : 0 ≤ k ∧ k ≤ 2) (hg : g = -9 ∨ (0 ≤ g ∧ g < σ o 2)) (hq : q = if g = -9 then none else some (A g)) (hp : p = if σ o 2 = 0 then none else some (A (X (o + 2) (σ o 2)))) (hPW : PW (X (o + 2)) (σ o 2 + 1)) (hr : rwS T N I r) (hrL : N r = L.length ∧ seg (I r) 0 (L.length : Int) = L) (hro : r = G.2.2.2.2.1 ∨ o + 37 ≤ r) (hrs : ∀ s : Nat, s < 5 → R (a + 177 + s) 0 ≠ some r) (x2 : X o 2 = σ o 2 + 1) (x1 : X o 1 = mdT k g (σ o 1)) (x0 : ∀ j, j = 0 ∨ j = 30 ∨ j = 40 → X o j = σ o j) (y1 : ∀ c, c ≠ σ o 2 → X (o + 1) c = σ (o + 1) c) (y1m : X (o + 1) (σ o 2) = k) (y2 : ∀ c, c ≠ σ o 2 → X (o + 2) c = σ (o + 2) c) (y3 : ∀ c, c ≠ σ o 2 → X (o + 3) c = σ (o + 3) c) (y3m : X (o + 3) (σ o 2) = g) (y4 : ∀ c, c ≠ σ o 2 → X (o + 4) c = σ (o + 4) c) (y4m : X (o + 4) (σ o 2) = σ o 3 + 1) (y6 : ∀ c, c ≠ σ o 2 → X (o + 6) c = σ (o + 6) c) (y6m : X (o + 6) (σ o 2) = L.length) (yr : ∀ c, 0 ≤ c → c < σ o 2 → rowL X o c = rowL σ o c) (yrm : rowL X o (σ o 2) = L) (yq : ∀ x, o + 6 < x → x ≠ o + 29 → X x = σ x) (htip : ∀ b, 0 ≤ b → b < 4 → σ (o + 7) b ≠ σ o 2) (y29 : ∀ j, 0 ≤ j → j < 4 → X (o + 29) j = σ (o + 29) j) (hP : X o 40 ≠ 0 → rpK (ax_n T z (tgK k)) N (mkI I z a k q) (ax_u (mkS R z a p (some r) q) (a + 2) (I a 2) (some z)) a o X (fun c => if c = σ o 2 then z else A c)) : RelA G (ax_n T z (tgK k)) N (mkI I z a k q) (ax_u (mkS R z a p (some r) q) (a + 2) (I a 2) (some z)) (z + 1) a o X (fun c => if c = σ o 2 then z else A c) (fun c => if c = σ o 2 then r else w c) := by
  have hx := rl_fx h
  have b0 := fx_b0 hx
  have b1 := fx_b1 hx
  have b2 := fx_b2 hx
  have tz0 := fx_tz hx
  have n1 := (fx_nl hx).2
  have hn := rl_n h
  have cc := rl_cc h
  have cs := rl_cs h
  have hT9 : ∀ x, T x ≠ 99 → ax_n T z (tgK k) x = T x ∧ N x = N x := fun x hx9 => ⟨axn_a (by have := tz0 x hx9; omega), rfl⟩
  have ei : ∀ x, x < z → x ≠ a → x ≠ a + 1 → mkI I z a k q x = I x := fun x h1 h2 h3 => mkI_o (by omega) h2 h3
  have er : ∀ x, x < z → x ≠ a + 2 → ax_u (mkS R z a p (some r) q) (a + 2) (I a 2) (some z) x = R x := fun x h1 h2 => by rw [axu_row h2]; exact mkS_o (by omega)
  have ez : ∀ j, ax_u (mkS R z a p (some r) q) (a + 2) (I a 2) (some z) z j = mkS R z a p (some r) q z j := fun j => axu_a (by omega)
  have aA : ∀ c, 0 ≤ c → c < σ o 2 → A c < z ∧ A c ≠ a ∧ A c ≠ a + 1 ∧ A c ≠ a + 2 ∧ w c < z ∧ w c ≠ a ∧ w c ≠ a + 1 := fun c a1 a2 => by
    obtain ⟨-, -, -, -, -, -, c7, c8⟩ := cc c a1 a2
    obtain ⟨d1, -, -, -, d5⟩ := cs.2 c a1 a2
    have e1 := tz0 (A c) (by rcases d1 with e | e | e <;> omega)
    have e2 := tz0 (w c) (by have := d5.1; omega)
    omega
  have rz : r < z ∧ r ≠ a ∧ r ≠ a + 1 := by have := tz0 r (by have := hr.1; omega); omega
  have hx' : fxS G (ax_n T z (tgK k)) N (ax_u (mkS R z a p (some r) q) (a + 2) (I a 2) (some z)) (z + 1) a o := fx_up hx (fun x hx9 => ⟨axn_a (by omega), rfl⟩) (er a (by omega) (by omega)) (er _ (by omega) (by omega)) (fun j _ => by rw [er (a + 5) (by omega) (by omega)]) (fun x a1 a2 => er x (by omega) (by omega)) (fun j _ _ => by rw [er (a + 183) (by omega) (by omega)]) (fun j _ _ => by rw [er (a + 189) (by omega) (by omega)]) (by omega) (fun x hx9 => by
    by_cases e : x = z
    · omega
    · rw [axn_a e] at hx9
      have := tz0 x hx9
      omega)
  have eE : ∀ x l, reE T N I R a o x l → reE (ax_n T z (tgK k)) N (mkI I z a k q) (ax_u (mkS R z a p (some r) q) (a + 2) (I a 2) (some z)) a o x l := fun x l hl => reE_up hl hT9 (fun u hu h13 hs => ⟨ei u (tz0 u (by omega)) (by omega) (by omega), fun s hs9 => by rw [er _ (by omega) (by omega)]; exact hs s hs9⟩) (fun x hx9 h7 => er x (tz0 x (by omega)) (by omega))
  have ers : rsL X o = rsL σ o := rsL_eq (x0 30 (by omega)) (yq _ (by omega) (by omega)) (yq _ (by omega) (by omega)) (yq _ (by omega) (by omega)) (yq _ (by omega) (by omega))
  have i1z : mkI I z a k q z 1 = σ o 2 := by unfold mkI; rw [axu_a (by omega), axu_a (by omega), axu_s, hn]
  have i5z : mkI I z a k q z 5 = 0 := by unfold mkI; rw [axu_a (by omega), axu_a (by omega), axu_j (by decide), axn_s]
  have sz0 : mkS R z a p (some r) q z 0 = some (a + 1) := by unfold mkS; rw [axu_j (by decide), axu_j (by decide), axu_j (by decide), axu_s]
  have sz2 : mkS R z a p (some r) q z 2 = p := by unfold mkS; rw [axu_j (by decide), axu_j (by decide), axu_s]
  have sz3 : mkS R z a p (some r) q z 3 = q := by unfold mkS; rw [axu_j (by decide), axu_s]
  have sz4 : mkS R z a p (some r) q z 4 = some r := by unfold mkS; rw [axu_s]
  have A1 : ∀ c, c < σ o 2 → (if c = σ o 2 then z else A c) = A c := fun c hc => if_neg (by omega)
  refine ⟨hx', fun j hj => by rw [ei (a + 176) (by omega) (by omega) (by omega)]; exact rl_sg h j hj, by unfold mkI; rw [axu_s, x2, hn], ?_, ?_, ⟨by rw [x2]; exact hPW, fun c a1 a2 => ?_⟩, fun c a1 a2 => ?_, fun b a1 a2 => ?_, fun s hs => ?_, fun s hs u hu => ?_, ⟨by rw [ei (a + 5) (by omega) (by omega) (by omega), ers]; exact (rl_rs h).1, by rw [ers]; exact (rl_rs h).2.1, fun j l hl => ?_⟩, ⟨fun j v a1 a2 hv => ?_, fun j v a1 a2 hv => ?_⟩, fun j a1 a2 => by rw [ei (a + 186) (by omega) (by omega) (by omega), y29 j a1 a2]; exact rl_fg h j a1 a2, by rw [ei (a + 183) (by omega) (by omega) (by omega), x0 40 (by omega)]; exact rl_st h, hP⟩
  · unfold mkI
    rw [axu_a (by omega), axu_s, x1, ← rl_t h, hq]
    by_cases hg9 : g = -9
    · rw [if_pos hg9, if_pos rfl, hg9]
    · rw [if_neg hg9, if_neg (fun h9 => by cases h9)]
      unfold mdT
      dsimp only
      rw [if_neg (show ¬ (0 : Int) = -9 by decide), if_neg hg9]
  · unfold mkI
    rw [axu_j (by decide), axu_a (by omega), axu_a (by omega), axn_a (by omega), x0 0 (by omega)]
    exact rl_f h
  · rw [x2] at a2
    by_cases hcm : c = σ o 2
    · rw [hcm]
      simp only [if_true]
      rw [axn_s, i1z, ez, sz2, ez, sz4, hp]
      refine ⟨tgK_p k, rfl, ?_, rfl, ?_⟩
      · by_cases hm0 : σ o 2 = 0
        · rw [if_pos hm0, if_pos hm0]
        · rw [if_neg hm0, if_neg hm0, A1 _ (hPW.2 _ (by omega) (by omega)).2]
      · unfold rwS at *
        rw [axn_a (by omega), ei r rz.1 rz.2.1 rz.2.2]
        exact hr
    · obtain ⟨d1, d2, d3, d4, d5⟩ := cs.2 c a1 (by omega)
      obtain ⟨e1, e2, e3, e4, e5, e6, e7⟩ := aA c a1 (by omega)
      simp only [hcm, if_false]
      rw [axn_a (by omega), ei _ e1 e2 e3, er _ e1 e4]
      refine ⟨d1, d2, ?_, d4, ?_⟩
      · rw [d3]
        by_cases hc0 : c = 0
        · rw [if_pos hc0, if_pos hc0]
        · rw [if_neg hc0, if_neg hc0, y2 c hcm]
          have := cs.1.2 c (by omega) (by omega)
          rw [A1 _ (by omega)]
      · unfold rwS at *
        rw [axn_a (by omega), ei _ e5 e6 e7]
        exact d5
  · rw [x2] at a2
    by_cases hcm : c = σ o 2
    · rw [hcm]
      simp only [if_true]
      rw [ez, sz0, ez, sz3, i5z, axn_s, y1m, y3m, y6m, yrm, hn, axu_s, tgK_k hk, ei r rz.1 rz.2.1 rz.2.2]
      refine ⟨rfl, rfl, rfl, ⟨?_, hg⟩, rfl, hrL, Or.inr (by omega), hro⟩
      rw [hq]
      by_cases hg9 : g = -9
      · rw [if_pos hg9, if_pos hg9]
      · rw [if_neg hg9, if_neg hg9, A1 _ (by omega)]
    · obtain ⟨g1, g2, g3, ⟨g4, g4'⟩, g5, g6, g7, g8⟩ := cc c a1 (by omega)
      obtain ⟨e1, e2, e3, e4, e5, e6, e7⟩ := aA c a1 (by omega)
      simp only [hcm, if_false]
      rw [axu_j (by rw [hn]; exact hcm), mkS_o (show a + 2 ≠ z by omega), axn_a (by omega), er _ e1 e4, ei _ e1 e2 e3, ei _ e5 e6 e7, y1 c hcm, y3 c hcm, y6 c hcm, yr c a1 (by omega)]
      refine ⟨g1, g2, g3, ⟨?_, g4'⟩, g5, g6, g7, g8⟩
      rw [g4]
      by_cases hg9 : σ (o + 3) c = -9
      · rw [if_pos hg9, if_pos hg9]
      · rw [if_neg hg9, if_neg hg9, A1 _ (by omega)]
  · rw [er (a + 3) (by omega) (by omega), yq (o + 7) (by omega) (by omega)]
    dsimp only
    rw [if_neg (htip b a1 a2)]
    exact rl_tp h b a1 a2
  · refine slK_up (rl_sl h s hs) hT9 (ei _ (by omega) (by omega) (by omega)) (er _ (by omega) (by omega)) (fun u hu => ?_) (fun x hx9 => ?_) (by rw [yq _ (by omega) (by omega)]) (by rw [yq _ (by omega) (by omega)]) (by unfold slL; rw [yq (o + 32) (by omega) (by omega), yq (o + 33) (by omega) (by omega)]) (by rw [yq _ (by omega) (by omega)]) (by rw [yq _ (by omega) (by omega)]) (fun _ => ?_) (fun _ hl => if_neg (by have := hl.1; omega))
    · obtain ⟨⟨t1, -⟩, ⟨t4, -⟩, -⟩ := rl_ar h hMS hs u hu
      exact ei u (tz0 u (by omega)) (by omega) (by omega)
    · have h1 := rl_sc2 h hs x hx9
      have h2 : x = a + 182 ∨ o + 37 ≤ x := by
        obtain ⟨k1, k2, k3, k4, k5⟩ := rl_sl h s hs
        rcases k2 with e | e | e | e
        · rw [(k3 e).2] at hx9; cases hx9
        · rw [(k4 (Or.inl e)).1] at hx9; cases hx9
        · rw [(k4 (Or.inr e)).1] at hx9; cases hx9
        · obtain ⟨-, u', e3, -, -, e6, -⟩ := k5 e; rw [e3] at hx9; cases hx9; exact e6
      rw [ei x (tz0 x (by rcases h1 with e | e | e <;> omega)) (by omega) (by omega)]
    · unfold hlv
      rw [yq (o + 34) (by omega) (by omega), yq (o + 36) (by omega) (by omega), x2]
      have h36 := hMS.2.2.2.2.2.1 s
      by_cases e : σ (o + 34) s = σ o 2
      · rw [e, y4m]; constructor
        · intro h9; omega
        · intro h9; omega
      · rw [y4 _ e]; constructor
        · intro h9; exact ⟨by omega, h9.2⟩
        · intro h9; exact ⟨by omega, h9.2⟩
  · rw [er (a + 177 + s) (by omega) (by omega)] at hu
    obtain ⟨e1, e2⟩ := rl_sd h s hs u hu
    refine ⟨fun c a1 a2 => ?_, fun t ht hne => by rw [er (a + 177 + t) (by omega) (by omega)]; exact e2 t ht hne⟩
    rw [x2] at a2
    by_cases hcm : c = σ o 2
    · simp only [hcm, if_true]
      exact fun h9 => hrs s hs (by rw [h9]; exact hu)
    · simp only [hcm, if_false]
      exact e1 c a1 (by omega)
  · rw [ers] at hl
    obtain ⟨x, e1, e2⟩ := (rl_rs h).2.2 j l hl
    exact ⟨x, by rw [er (a + 6) (by omega) (by omega)]; exact e1, eE x l e2⟩
  · rw [er (a + 6) (by omega) (by omega)] at hv
    have := (rl_r7 h).1 j v a1 a2 hv
    rw [(hT9 v (by omega)).1]; exact this
  · rw [er (a + 188) (by omega) (by omega)] at hv
    have := (rl_r7 h).2 j v a1 a2 hv
    rw [(hT9 v (by omega)).1]; exact this
theorem fro_md {T : Nat → Nat} {N : Nat → Int} {I : Nat → Int → Int} {R : Nat → Int → Option Nat} {a o z t : Nat} {k m : Int} {p r q : Option Nat} (h1 : a + 197 ≤ o) (h2 : o + 37 ≤ z) : fro a o T N I R (ax_n T z t) N (mkI I z a k q) (ax_u (mkS R z a p r q) (a + 2) m (some z)) := fun x hx => ⟨axn_a (by omega), rfl, mkI_o (by omega) (by omega) (by omega), by rw [axu_row (by omega)]; exact mkS_o (by omega)⟩

