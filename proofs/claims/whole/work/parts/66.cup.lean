/-! THE CLASS: the relation after a change -/
theorem rpT_l2 {T T1 : Nat → Nat} {N N1 : Nat → Int} {R R1 : Nat → Int → Option Nat} {r w : Nat} (h : rpT T N R r w) (eT : ∀ q, w ≤ q → q < w + 5 → T1 q = T q ∧ N1 q = N q) (e1 : T1 r = T r) (e2 : ∀ k, k ≠ 2 → k ≠ 3 → R1 r k = R r k) : rpT T1 N1 R1 r w := by
  unfold rpT at *
  rw [e1, e2 4 (by decide) (by decide), e2 6 (by decide) (by decide), e2 9 (by decide) (by decide), e2 11 (by decide) (by decide), e2 12 (by decide) (by decide), (eT w (by omega) (by omega)).1, (eT w (by omega) (by omega)).2, (eT (w + 1) (by omega) (by omega)).1, (eT (w + 1) (by omega) (by omega)).2, (eT (w + 2) (by omega) (by omega)).1, (eT (w + 2) (by omega) (by omega)).2, (eT (w + 3) (by omega) (by omega)).1, (eT (w + 3) (by omega) (by omega)).2, (eT (w + 4) (by omega) (by omega)).1, (eT (w + 4) (by omega) (by omega)).2]
  exact h
/-- the fixed structure stays: what may change is told by the numbers -/
theorem fx_up {G : ax_G} {T T1 : Nat → Nat} {N N1 : Nat → Int} {R R1 : Nat → Int → Option Nat} {z z1 a o : Nat} (h : fxS G T N R z a o) (eT : ∀ q, q < z → T1 q = T q ∧ N1 q = N q) (eA : R1 a = R a) (e4 : R1 (a + 4) = R (a + 4)) (eG : ∀ k, k ≠ 16 → R1 (a + 5) k = R (a + 5) k) (eR : ∀ q, a + 7 ≤ q → q < a + 176 → R1 q = R q) (e8 : ∀ k, k ≠ 2 → k ≠ 3 → R1 (a + 183) k = R (a + 183) k) (e9 : ∀ k, k ≠ 2 → k ≠ 3 → R1 (a + 189) k = R (a + 189) k) (hz : z ≤ z1) (tz : ∀ q, T1 q ≠ 99 → q < z1) : fxS G T1 N1 R1 z1 a o := by
  have b1 := fx_b1 h
  have b2 := fx_b2 h
  have h0 : fxS G T1 N1 R z1 a o := fx_le h (fun q hq => (eT q hq).1) (fun q hq => (eT q hq).2) (fun _ _ => rfl) hz tz
  have hg : mgT T1 N1 R1 (a + 5) := by
    obtain ⟨h1, h2, h3, ⟨h4, h4'⟩, ⟨h5, h5'⟩, h6, h7, h8, h9, h10, h11, ⟨h12, h12'⟩, h13, h13'⟩ := (fx_mg h0).2
    unfold mgT
    rw [eG 0 (by decide), eG 2 (by decide), eG 6 (by decide), eG 7 (by decide), eG 8 (by decide), eG 9 (by decide), eG 10 (by decide), eG 11 (by decide), eG 12 (by decide), eG 13 (by decide), eG 14 (by decide), eG 15 (by decide)]
    exact ⟨h1, h2, h3, ⟨h4, mtT_fr h4' (fun q a1 a2 => eR q (by omega) (by omega))⟩, ⟨h5, mtT_fr h5' (fun q a1 a2 => eR q (by omega) (by omega))⟩, h6, h7, h8, h9, h10, h11, ⟨h12, shT_fr h12' (eR _ (by omega) (by omega))⟩, h13, shT_fr h13' (eR _ (by omega) (by omega))⟩
  exact fx_fr h0 eA e4 hg (mtT_fr (fx_ch h0).2 (fun q a1 a2 => eR q (by omega) (by omega))) (mtT_fr (fx_co h0).2 (fun q a1 a2 => eR q (by omega) (by omega))) (rpT_fr (fx_cu h0).2.1 e8) (e8 0 (by decide) (by decide)) (rpT_fr (fx_re h0).2.1 e9) (e9 0 (by decide) (by decide))
theorem rl_C {G : ax_G} {T : Nat → Nat} {N : Nat → Int} {I : Nat → Int → Int} {R : Nat → Int → Option Nat} {z a o : Nat} {σ : Nat → Int → Int} {A w : Int → Nat} {T1 : Nat → Nat} {N1 : Nat → Int} {I1 : Nat → Int → Int} {R1 : Nat → Int → Option Nat} {σ1 : Nat → Int → Int} (h : RelA G T N I R z a o σ A w) (hT : ∀ q, T q ≠ 99 → T1 q = T q ∧ N1 q = N q) (h2 : R1 (a + 2) = R (a + 2)) (hA : ∀ c, 0 ≤ c → c < σ o 2 → I1 (A c) = I (A c) ∧ R1 (A c) = R (A c) ∧ I1 (w c) = I (w c)) (s0 : σ1 o 2 = σ o 2) (s1 : σ1 (o + 1) = σ (o + 1)) (s2 : σ1 (o + 2) = σ (o + 2)) (s3 : σ1 (o + 3) = σ (o + 3)) (s6 : σ1 (o + 6) = σ (o + 6)) (s5 : ∀ c, 0 ≤ c → c < σ o 2 → rowL σ1 o c = rowL σ o c) : cmS T1 N1 I1 R1 A w (σ1 o 2) (σ1 (o + 2)) ∧ ∀ c, 0 ≤ c → c < σ1 o 2 → R1 (a + 2) c = some (A c) ∧ kdT (T1 (A c)) = σ1 (o + 1) c ∧ R1 (A c) 0 = some (a + 1) ∧ (R1 (A c) 3 = (if σ1 (o + 3) c = -9 then none else some (A (σ1 (o + 3) c))) ∧ (σ1 (o + 3) c = -9 ∨ (0 ≤ σ1 (o + 3) c ∧ σ1 (o + 3) c < c))) ∧ I1 (A c) 5 = 0 ∧ (N1 (w c) = σ1 (o + 6) c ∧ seg (I1 (w c)) 0 (σ1 (o + 6) c) = rowL σ1 o c) ∧ (A c = a + 182 ∨ o + 37 ≤ A c) ∧ (w c = G.2.2.2.2.1 ∨ o + 37 ≤ w c) := by
  have cs := rl_cs h
  have cc := rl_cc h
  rw [s0, s1, s2, s3, s6]
  have eT : ∀ c, 0 ≤ c → c < σ o 2 → T1 (A c) = T (A c) ∧ T1 (w c) = T (w c) ∧ N1 (w c) = N (w c) := fun c a1 a2 => by
    obtain ⟨d1, d2, d3, d4, d5⟩ := cs.2 c a1 a2
    have e1 := hT (A c) (by rcases d1 with e | e | e <;> omega)
    have e2 := hT (w c) (by have := d5.1; omega)
    exact ⟨e1.1, e2.1, e2.2⟩
  refine ⟨⟨cs.1, fun c a1 a2 => ?_⟩, fun c a1 a2 => ?_⟩
  · obtain ⟨d1, d2, d3, d4, d5⟩ := cs.2 c a1 a2
    obtain ⟨e1, e2, e3⟩ := eT c a1 a2
    obtain ⟨f1, f2, f3⟩ := hA c a1 a2
    rw [f1, f2, e1]
    refine ⟨d1, d2, d3, d4, ?_⟩
    unfold rwS at *
    rw [e2, e3, f3]
    exact d5
  · obtain ⟨e1, e2, e3⟩ := eT c a1 a2
    obtain ⟨f1, f2, f3⟩ := hA c a1 a2
    rw [f1, f2, f3, e1, e3, h2, s5 c a1 a2]
    exact cc c a1 a2
theorem slK_up {T T1 : Nat → Nat} {N N1 : Nat → Int} {I I1 : Nat → Int → Int} {R R1 : Nat → Int → Option Nat} {a o s : Nat} {σ σ1 : Nat → Int → Int} {A A1 : Int → Nat} (k : slK T N I R a o σ A s) (hT : ∀ q, T q ≠ 99 → T1 q = T q ∧ N1 q = N q) (hI : I1 (a + 177 + s) = I (a + 177 + s)) (hR : R1 (a + 177 + s) = R (a + 177 + s)) (hu : ∀ u, R (a + 177 + s) 0 = some u → I1 u = I u) (hh : ∀ q, R (a + 177 + s) 2 = some q → I1 q 5 = I q 5) (e1 : σ1 (o + 31) s = σ (o + 31) s) (e2 : σ1 (o + 32) s = σ (o + 32) s) (e3 : slL σ1 o s = slL σ o s) (e4 : σ1 (o + 34) s = σ (o + 34) s) (e5 : σ1 (o + 35) s = σ (o + 35) s) (ev : σ (o + 31) s = 2 → (hlv σ1 o s ↔ hlv σ o s)) (eA : σ (o + 31) s = 2 → hlv σ o s → A1 (σ (o + 34) s) = A (σ (o + 34) s)) : slK T1 N1 I1 R1 a o σ1 A1 s := by
  obtain ⟨k1, k2, k3, k4, k5⟩ := k
  unfold slK
  rw [hI, hR, e1, e2, e3, e4, e5]
  refine ⟨k1, k2, k3, fun h9 => ?_, fun h9 => ?_⟩
  · obtain ⟨x1, x2, u, x3, x4, x5, x6, x7⟩ := k4 h9
    have := hT u (by omega)
    exact ⟨x1, x2, u, x3, this.1.trans x4, this.2.trans x5, by rw [hu u x3]; exact x6, x7⟩
  · obtain ⟨x1, u, x3, x4, x5, x6, x7, x8⟩ := k5 h9
    have := (hT u (by rcases x4 with e | e | e <;> omega)).1
    exact ⟨x1, u, x3, by rw [this]; exact x4, by rw [this]; exact x5, x6, fun h8 => by rw [eA h9 ((ev h9).mp h8)]; exact x7 ((ev h9).mp h8), fun h8 => by rw [hh u x3]; exact x8 (fun h7 => h8 ((ev h9).mpr h7))⟩
theorem reE_up {T T1 : Nat → Nat} {N N1 : Nat → Int} {I J : Nat → Int → Int} {R S : Nat → Int → Option Nat} {a o q : Nat} {p : List Int × List Int} (h : reE T N I R a o q p) (hT : ∀ q, T q ≠ 99 → T1 q = T q ∧ N1 q = N q) (hJ : ∀ u, o + 37 ≤ u → T u = 13 → (∀ s : Nat, s < 5 → R (a + 177 + s) 0 ≠ some u) → J u = I u ∧ ∀ s : Nat, s < 5 → S (a + 177 + s) 0 ≠ some u) (hS : ∀ q, o + 37 ≤ q → T q = 7 → S q = R q) : reE T1 N1 J S a o q p := by
  obtain ⟨⟨h1, h2⟩, u, v, ⟨h3, h4⟩, ⟨h5, h6⟩, ⟨h7, h8, h9⟩, ⟨h10, h11, h12⟩, h13⟩ := h
  obtain ⟨ju, su⟩ := hJ u h5 h7 (fun s hs => (h13 s hs).1)
  obtain ⟨jv, sv⟩ := hJ v h6 h10 (fun s hs => (h13 s hs).2)
  have tq := hT q (by omega)
  have tu := hT u (by omega)
  have tv := hT v (by omega)
  exact ⟨⟨tq.1.trans h1, h2⟩, u, v, by rw [hS q h2 h1]; exact ⟨h3, h4⟩, ⟨h5, h6⟩, ⟨tu.1.trans h7, tu.2.trans h8, by rw [ju]; exact h9⟩, ⟨tv.1.trans h10, tv.2.trans h11, by rw [jv]; exact h12⟩, fun s hs => ⟨su s hs, sv s hs⟩⟩
theorem rl_P {T : Nat → Nat} {N : Nat → Int} {I : Nat → Int → Int} {R : Nat → Int → Option Nat} {a o : Nat} {σ : Nat → Int → Int} {A : Int → Nat} {T1 : Nat → Nat} {N1 : Nat → Int} {I1 : Nat → Int → Int} {R1 : Nat → Int → Option Nat} {σ1 : Nat → Int → Int} (h : rpK T N I R a o σ A) (hE : ∀ q p, reE T N I R a o q p → reE T1 N1 I1 R1 a o q p) (i3 : ∀ k, k ≠ 8 → I1 (a + 183) k = I (a + 183) k) (i7 : I1 (a + 187) = I (a + 187)) (r3 : R1 (a + 183) = R (a + 183)) (r4 : R1 (a + 184) = R (a + 184)) (r5 : R1 (a + 185) = R (a + 185)) (r8 : R1 (a + 188) = R (a + 188)) (s0 : ∀ k, k ≠ 0 → k ≠ 1 → k ≠ 2 → k ≠ 3 → k ≠ 30 → k ≠ 40 → σ1 o k = σ o k) (s28 : σ1 (o + 28) = σ (o + 28)) (s30 : σ1 (o + 30) = σ (o + 30)) (sth : thR σ1 o = thR σ o) (skp : kpL σ1 o = kpL σ o) : rpK T1 N1 I1 R1 a o σ1 A := by
  obtain ⟨k1, k2, k3, k4, k5, k6, k7, k8⟩ := h
  unfold rpK
  rw [i3 1 (by decide), i3 5 (by decide), i3 7 (by decide), i3 10 (by decide), i3 13 (by decide), i7, r3, r4, r5, r8, s28, s30, sth, skp, s0 41 (by decide) (by decide) (by decide) (by decide) (by decide) (by decide), s0 42 (by decide) (by decide) (by decide) (by decide) (by decide) (by decide), s0 43 (by decide) (by decide) (by decide) (by decide) (by decide) (by decide), s0 44 (by decide) (by decide) (by decide) (by decide) (by decide) (by decide), s0 46 (by decide) (by decide) (by decide) (by decide) (by decide) (by decide), s0 47 (by decide) (by decide) (by decide) (by decide) (by decide) (by decide)]
  exact ⟨k1, k2, k3, k4, k5, k6, k7, fun k p hp => by
    obtain ⟨q, x1, x2⟩ := k8 k p hp
    exact ⟨q, x1, hE q p x2⟩⟩
/-- one slot has changed, and the fault -/
theorem rl_slot {G : ax_G} {T : Nat → Nat} {N : Nat → Int} {I : Nat → Int → Int} {R : Nat → Int → Option Nat} {z a o : Nat} {σ : Nat → Int → Int} {A w : Int → Nat} {T1 : Nat → Nat} {N1 : Nat → Int} {I1 : Nat → Int → Int} {R1 : Nat → Int → Option Nat} {z1 : Nat} {σ1 : Nat → Int → Int} (h : RelA G T N I R z a o σ A w) {s : Nat} (hs : s < 5) (hT : ∀ q, q < z → T1 q = T q ∧ N1 q = N q) (hz : z ≤ z1) (tz : ∀ q, T1 q ≠ 99 → q < z1) (hI : ∀ q, q < z → q ≠ a → q ≠ a + 177 + s → R (a + 177 + s) 0 ≠ some q → I1 q = I q) (hIa : ∀ j, j ≠ 11 → I1 a j = I a j) (hf : I1 a 11 = σ1 o 0) (hR : ∀ q, q < z → q ≠ a + 177 + s → R1 q = R q) (s0 : ∀ k, k ≠ 0 → σ1 o k = σ o k) (sq : ∀ q, q ≠ o → (q < o + 31 ∨ o + 36 < q) → σ1 q = σ q) (st : ∀ t : Nat, t < 5 → t ≠ s → σ1 (o + 31) t = σ (o + 31) t ∧ σ1 (o + 32) t = σ (o + 32) t ∧ slL σ1 o t = slL σ o t ∧ σ1 (o + 34) t = σ (o + 34) t ∧ σ1 (o + 35) t = σ (o + 35) t ∧ σ1 (o + 36) t = σ (o + 36) t) (hk : slK T1 N1 I1 R1 a o σ1 A s) (hd : ∀ u, R1 (a + 177 + s) 0 = some u → z ≤ u ∨ R (a + 177 + s) 0 = some u) : RelA G T1 N1 I1 R1 z1 a o σ1 A w := by
  have hx := rl_fx h
  have b0 := fx_b0 hx
  have b1 := fx_b1 hx
  have b2 := fx_b2 hx
  have tz0 := fx_tz hx
  have hT9 : ∀ q, T q ≠ 99 → T1 q = T q ∧ N1 q = N q := fun q hq => hT q (tz0 q hq)
  have hsl : ∀ u, R (a + 177 + s) 0 = some u → T u = 13 ∧ o + 37 ≤ u := fun u hu => by
    obtain ⟨k1, k2, k3, k4, k5⟩ := rl_sl h s hs
    rcases k2 with e | e | e | e
    · rw [(k3 e).1] at hu; cases hu
    · obtain ⟨-, -, u', x3, x4, -, -, x7⟩ := k4 (Or.inl e); rw [x3] at hu; cases hu; exact ⟨x4, x7⟩
    · obtain ⟨-, -, u', x3, x4, -, -, x7⟩ := k4 (Or.inr e); rw [x3] at hu; cases hu; exact ⟨x4, x7⟩
    · rw [(k5 e).1] at hu; cases hu
  have hnu : ∀ q, T q ≠ 13 ∨ q < o + 37 → R (a + 177 + s) 0 ≠ some q := fun q hq hu => by
    obtain ⟨x1, x2⟩ := hsl q hu
    omega
  have ei : ∀ q, q < o + 37 → q ≠ a → q ≠ a + 177 + s → I1 q = I q := fun q h1 h2 h3 => hI q (by omega) h2 h3 (hnu q (Or.inr h1))
  have er : ∀ q, q < o + 37 → q ≠ a + 177 + s → R1 q = R q := fun q h1 h2 => hR q (by omega) h2
  have cc := rl_cc h
  have cs := rl_cs h
  have hx' : fxS G T1 N1 R1 z1 a o := fx_up hx hT (er a (by omega) (by omega)) (er _ (by omega) (by omega)) (fun k _ => by rw [er (a + 5) (by omega) (by omega)]) (fun q a1 a2 => er q (by omega) (by omega)) (fun k _ _ => by rw [er (a + 183) (by omega) (by omega)]) (fun k _ _ => by rw [er (a + 189) (by omega) (by omega)]) hz tz
  have eA : ∀ c, 0 ≤ c → c < σ o 2 → I1 (A c) = I (A c) ∧ R1 (A c) = R (A c) ∧ I1 (w c) = I (w c) := fun c a1 a2 => by
    obtain ⟨-, -, -, -, -, -, c7, c8⟩ := cc c a1 a2
    obtain ⟨d1, -, -, -, d5⟩ := cs.2 c a1 a2
    have z1 := tz0 (A c) (by rcases d1 with e | e | e <;> omega)
    have z2 := tz0 (w c) (by have := d5.1; omega)
    have n1 := (fx_nl hx).2
    refine ⟨hI _ z1 (by omega) (by omega) (hnu _ (Or.inl (by rcases d1 with e | e | e <;> omega))), hR _ z1 (by omega), hI _ z2 (by omega) (by omega) (fun hu => (rl_sd h s hs _ hu).1 c a1 a2 rfl)⟩
  have eE : ∀ q p, reE T N I R a o q p → reE T1 N1 I1 R1 a o q p := fun q p hq => reE_up hq hT9 (fun u hu h13 hn => by
    have hz9 := tz0 u (by omega)
    refine ⟨hI u hz9 (by omega) (by omega) (hn s hs), fun t ht => ?_⟩
    by_cases hts : t = s
    · subst hts
      intro h9
      rcases hd u h9 with h8 | h8
      · omega
      · exact hn t ht h8
    · rw [er (a + 177 + t) (by omega) (by omega)]; exact hn t ht) (fun q hq h7 => hR q (tz0 q (by omega)) (by omega))
  have e6 : ∀ c, rowL σ1 o c = rowL σ o c := fun c => by unfold rowL rwI; rw [sq (o + 5) (by omega) (by omega), sq (o + 6) (by omega) (by omega)]
  have hCC := rl_C (σ1 := σ1) h hT9 (er (a + 2) (by omega) (by omega)) eA (s0 2 (by decide)) (sq _ (by omega) (by omega)) (sq _ (by omega) (by omega)) (sq _ (by omega) (by omega)) (sq _ (by omega) (by omega)) (fun c _ _ => e6 c)
  have ers : rsL σ1 o = rsL σ o := rsL_eq (s0 30 (by decide)) (sq _ (by omega) (by omega)) (sq _ (by omega) (by omega)) (sq _ (by omega) (by omega)) (sq _ (by omega) (by omega))
  refine ⟨hx', fun j hj => by rw [ei (a + 176) (by omega) (by omega) (by omega)]; exact rl_sg h j hj, by rw [hIa 2 (by decide), s0 2 (by decide)]; exact rl_n h, by rw [ei (a + 1) (by omega) (by omega) (by omega), s0 1 (by decide)]; exact rl_t h, hf, hCC.1, hCC.2, fun b a1 a2 => by rw [er (a + 3) (by omega) (by omega), sq (o + 7) (by omega) (by omega)]; exact rl_tp h b a1 a2, fun t ht => ?_, fun t ht u hu => ?_, ⟨?_, ?_, fun k p hp => ?_⟩, ⟨fun j v a1 a2 hv => ?_, fun j v a1 a2 hv => ?_⟩, fun k a1 a2 => by rw [ei (a + 186) (by omega) (by omega) (by omega), sq (o + 29) (by omega) (by omega)]; exact rl_fg h k a1 a2, by rw [ei (a + 183) (by omega) (by omega) (by omega), s0 40 (by decide)]; exact rl_st h, fun h40 => ?_⟩
  · by_cases hts : t = s
    · rw [hts]; exact hk
    · obtain ⟨x1, x2, x3, x4, x5, x6⟩ := st t ht hts
      have kt := rl_sl h t ht
      refine slK_up kt hT9 (ei _ (by omega) (by omega) (by omega)) (er _ (by omega) (by omega)) (fun u hu => ?_) (fun q hq => ?_) x1 x2 x3 x4 x5 (fun _ => ?_) (fun _ _ => rfl)
      · have hsd := rl_sd h t ht u hu
        have hu2 : T u = 13 ∧ o + 37 ≤ u := by
          obtain ⟨k1, k2, k3, k4, k5⟩ := kt
          rcases k2 with e | e | e | e
          · rw [(k3 e).1] at hu; cases hu
          · obtain ⟨-, -, u', y3, y4, -, -, y7⟩ := k4 (Or.inl e); rw [y3] at hu; cases hu; exact ⟨y4, y7⟩
          · obtain ⟨-, -, u', y3, y4, -, -, y7⟩ := k4 (Or.inr e); rw [y3] at hu; cases hu; exact ⟨y4, y7⟩
          · rw [(k5 e).1] at hu; cases hu
        exact hI u (tz0 u (by omega)) (by omega) (by omega) (hsd.2 s hs (Ne.symm hts))
      · have hq2 : pT (T q) ∧ (q = a + 182 ∨ o + 37 ≤ q) := by
          obtain ⟨k1, k2, k3, k4, k5⟩ := kt
          rcases k2 with e | e | e | e
          · rw [(k3 e).2] at hq; cases hq
          · rw [(k4 (Or.inl e)).1] at hq; cases hq
          · rw [(k4 (Or.inr e)).1] at hq; cases hq
          · obtain ⟨-, u', y3, y4, -, y6, -⟩ := k5 e; rw [y3] at hq; cases hq; exact ⟨y4, y6⟩
        have h99 : T q ≠ 99 ∧ T q ≠ 13 := by rcases hq2.1 with e | e | e <;> omega
        rw [hI q (tz0 q h99.1) (by omega) (by omega) (hnu q (Or.inl h99.2))]
      · unfold hlv
        rw [x4, x6, s0 2 (by decide), sq (o + 4) (by omega) (by omega)]
  · by_cases hts : t = s
    · subst hts
      rcases hd u hu with h8 | h8
      · refine ⟨fun c a1 a2 h9 => ?_, fun t2 ht2 hne h9 => ?_⟩
        · rw [s0 2 (by decide)] at a2
          have := (cs.2 c a1 a2).2.2.2.2.1
          have := tz0 (w c) (by omega)
          omega
        · rw [er (a + 177 + t2) (by omega) (by omega)] at h9
          have k9 := rl_sl h t2 ht2
          obtain ⟨k1, k2, k3, k4, k5⟩ := k9
          have hu13 : T u = 13 := by
            rcases k2 with e | e | e | e
            · rw [(k3 e).1] at h9; cases h9
            · obtain ⟨-, -, u', y3, y4, -⟩ := k4 (Or.inl e); rw [y3] at h9; cases h9; exact y4
            · obtain ⟨-, -, u', y3, y4, -⟩ := k4 (Or.inr e); rw [y3] at h9; cases h9; exact y4
            · rw [(k5 e).1] at h9; cases h9
          have := tz0 u (by omega)
          omega
      · obtain ⟨y1, y2⟩ := rl_sd h t ht u h8
        exact ⟨fun c a1 a2 => y1 c a1 (by rw [← s0 2 (by decide)]; exact a2), fun t2 ht2 hne => by rw [er (a + 177 + t2) (by omega) (by omega)]; exact y2 t2 ht2 hne⟩
    · rw [er (a + 177 + t) (by omega) (by omega)] at hu
      obtain ⟨y1, y2⟩ := rl_sd h t ht u hu
      refine ⟨fun c a1 a2 => y1 c a1 (by rw [← s0 2 (by decide)]; exact a2), fun t2 ht2 hne => ?_⟩
      by_cases ht2s : t2 = s
      · subst ht2s
        intro h9
        rcases hd u h9 with h8 | h8
        · have k9 := rl_sl h t ht
          obtain ⟨k1, k2, k3, k4, k5⟩ := k9
          have hu13 : T u = 13 := by
            rcases k2 with e | e | e | e
            · rw [(k3 e).1] at hu; cases hu
            · obtain ⟨-, -, u', y3, y4, -⟩ := k4 (Or.inl e); rw [y3] at hu; cases hu; exact y4
            · obtain ⟨-, -, u', y3, y4, -⟩ := k4 (Or.inr e); rw [y3] at hu; cases hu; exact y4
            · rw [(k5 e).1] at hu; cases hu
          have := tz0 u (by omega)
          omega
        · exact y2 t2 ht2 hne h8
      · rw [er (a + 177 + t2) (by omega) (by omega)]; exact y2 t2 ht2 hne
  · rw [ei (a + 5) (by omega) (by omega) (by omega), ers]; exact (rl_rs h).1
  · rw [ers]; exact (rl_rs h).2.1
  · rw [ers] at hp
    obtain ⟨q, x1, x2⟩ := (rl_rs h).2.2 k p hp
    exact ⟨q, by rw [er (a + 6) (by omega) (by omega)]; exact x1, eE q p x2⟩
  · rw [er (a + 6) (by omega) (by omega)] at hv
    have := (rl_r7 h).1 j v a1 a2 hv
    rw [(hT9 v (by omega)).1]; exact this
  · rw [er (a + 188) (by omega) (by omega)] at hv
    have := (rl_r7 h).2 j v a1 a2 hv
    rw [(hT9 v (by omega)).1]; exact this
  · rw [s0 40 (by decide)] at h40
    refine rl_P (rl_rp h h40) eE (fun k _ => by rw [ei (a + 183) (by omega) (by omega) (by omega)]) (ei _ (by omega) (by omega) (by omega)) (er _ (by omega) (by omega)) (er _ (by omega) (by omega)) (er _ (by omega) (by omega)) (er _ (by omega) (by omega)) (fun k h0 _ _ _ _ _ => s0 k h0) (sq _ (by omega) (by omega)) (sq _ (by omega) (by omega)) ?_ ?_
    · unfold thR
      rw [sq (o + 2) (by omega) (by omega), sq (o + 7) (by omega) (by omega), s0 42 (by decide), s0 41 (by decide)]
    · unfold kpL
      rw [sq (o + 24) (by omega) (by omega), sq (o + 25) (by omega) (by omega), sq (o + 26) (by omega) (by omega), sq (o + 27) (by omega) (by omega), s0 35 (by decide)]

