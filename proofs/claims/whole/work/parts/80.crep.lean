/-! THE CLASS: steps of a replay: the relation -/
theorem rl_rep {G : ax_G} {T : Nat → Nat} {N : Nat → Int} {I : Nat → Int → Int} {R : Nat → Int → Option Nat} {z a o : Nat} {σ : Nat → Int → Int} {A w : Int → Nat} {I1 : Nat → Int → Int} {R1 : Nat → Int → Option Nat} {σ1 : Nat → Int → Int} (h : RelA G T N I R z a o σ A w) (i0 : ∀ q, q ≠ a + 183 → q ≠ a + 186 → q ≠ a + 187 → I1 q = I q) (r0 : ∀ q, q ≠ a + 183 → q ≠ a + 184 → q ≠ a + 185 → q ≠ a + 188 → R1 q = R q) (r3 : ∀ k, k ≠ 2 → k ≠ 3 → R1 (a + 183) k = R (a + 183) k) (s0 : ∀ k, k = 0 ∨ k = 1 ∨ k = 2 ∨ k = 30 → σ1 o k = σ o k) (sq : ∀ q, q ≠ o → (q < o + 24 ∨ o + 31 ≤ q) → σ1 q = σ q) (r88 : r7 T R1 (a + 188)) (fg : ∀ k, 0 ≤ k → k < 4 → I1 (a + 186) k = σ1 (o + 29) k) (st : I1 (a + 183) 8 = σ1 o 40) (rp9 : σ1 o 40 ≠ 0 → rpK T N I1 R1 a o σ1 A) : RelA G T N I1 R1 z a o σ1 A w := by
  have hx := rl_fx h
  have b0 := fx_b0 hx
  have b1 := fx_b1 hx
  have n1 := (fx_nl hx).2
  have hx' : fxS G T N R1 z a o := fx_up hx (fun _ _ => ⟨rfl, rfl⟩) (r0 a (by omega) (by omega) (by omega) (by omega)) (r0 _ (by omega) (by omega) (by omega) (by omega)) (fun k _ => by rw [r0 (a + 5) (by omega) (by omega) (by omega) (by omega)]) (fun q a1 a2 => r0 q (by omega) (by omega) (by omega) (by omega)) r3 (fun k _ _ => by rw [r0 (a + 189) (by omega) (by omega) (by omega) (by omega)]) (Nat.le_refl _) (fx_tz hx)
  have eA : ∀ c, 0 ≤ c → c < σ o 2 → I1 (A c) = I (A c) ∧ R1 (A c) = R (A c) ∧ I1 (w c) = I (w c) := fun c a1 a2 => by
    obtain ⟨-, -, -, -, -, -, c7, c8⟩ := rl_cc h c a1 a2
    exact ⟨i0 _ (by omega) (by omega) (by omega), r0 _ (by omega) (by omega) (by omega) (by omega), i0 _ (by omega) (by omega) (by omega)⟩
  have eE : ∀ q p, reE T N I R a o q p → reE T N I1 R1 a o q p := fun q p hq => reE_up hq (fun _ _ => ⟨rfl, rfl⟩) (fun u hu _ hn => ⟨i0 u (by omega) (by omega) (by omega), fun s hs => by rw [r0 _ (by omega) (by omega) (by omega) (by omega)]; exact hn s hs⟩) (fun q hq _ => r0 q (by omega) (by omega) (by omega) (by omega))
  have e6 : ∀ c, rowL σ1 o c = rowL σ o c := fun c => by unfold rowL rwI; rw [sq (o + 5) (by omega) (by omega), sq (o + 6) (by omega) (by omega)]
  have hCC := rl_C (σ1 := σ1) h (fun _ _ => ⟨rfl, rfl⟩) (r0 (a + 2) (by omega) (by omega) (by omega) (by omega)) eA (s0 2 (by omega)) (sq _ (by omega) (by omega)) (sq _ (by omega) (by omega)) (sq _ (by omega) (by omega)) (sq _ (by omega) (by omega)) (fun c _ _ => e6 c)
  have ers : rsL σ1 o = rsL σ o := rsL_eq (s0 30 (by omega)) (sq _ (by omega) (by omega)) (sq _ (by omega) (by omega)) (sq _ (by omega) (by omega)) (sq _ (by omega) (by omega))
  have hsu : ∀ s : Nat, s < 5 → ∀ u, R (a + 177 + s) 0 = some u → o + 37 ≤ u := fun s hs u hu => by
    obtain ⟨k1, k2, k3, k4, k5⟩ := rl_sl h s hs
    rcases k2 with e | e | e | e
    · rw [(k3 e).1] at hu; cases hu
    · obtain ⟨-, -, u', x3, -, -, -, x7⟩ := k4 (Or.inl e); rw [x3] at hu; cases hu; exact x7
    · obtain ⟨-, -, u', x3, -, -, -, x7⟩ := k4 (Or.inr e); rw [x3] at hu; cases hu; exact x7
    · rw [(k5 e).1] at hu; cases hu
  have hsh : ∀ s : Nat, s < 5 → ∀ u, R (a + 177 + s) 2 = some u → u = a + 182 ∨ o + 37 ≤ u := fun s hs u hu => by
    obtain ⟨k1, k2, k3, k4, k5⟩ := rl_sl h s hs
    rcases k2 with e | e | e | e
    · rw [(k3 e).2] at hu; cases hu
    · rw [(k4 (Or.inl e)).1] at hu; cases hu
    · rw [(k4 (Or.inr e)).1] at hu; cases hu
    · obtain ⟨-, u', x3, -, -, x6, -⟩ := k5 e; rw [x3] at hu; cases hu; exact x6
  refine ⟨hx', fun j hj => by rw [i0 (a + 176) (by omega) (by omega) (by omega)]; exact rl_sg h j hj, by rw [i0 a (by omega) (by omega) (by omega), s0 2 (by omega)]; exact rl_n h, by rw [i0 (a + 1) (by omega) (by omega) (by omega), s0 1 (by omega)]; exact rl_t h, by rw [i0 a (by omega) (by omega) (by omega), s0 0 (by omega)]; exact rl_f h, hCC.1, hCC.2, fun b d0 d1 => by rw [r0 (a + 3) (by omega) (by omega) (by omega) (by omega), sq (o + 7) (by omega) (by omega)]; exact rl_tp h b d0 d1, fun s hs => ?_, fun s hs u hu => ?_, ⟨by rw [i0 (a + 5) (by omega) (by omega) (by omega), ers]; exact (rl_rs h).1, by rw [ers]; exact (rl_rs h).2.1, fun k p hp => ?_⟩, ⟨fun j v a1 a2 hv => ?_, r88⟩, fg, st, rp9⟩
  · refine slK_up (rl_sl h s hs) (fun _ _ => ⟨rfl, rfl⟩) (i0 _ (by omega) (by omega) (by omega)) (r0 _ (by omega) (by omega) (by omega) (by omega)) (fun u hu => i0 u (by have := hsu s hs u hu; omega) (by have := hsu s hs u hu; omega) (by have := hsu s hs u hu; omega)) (fun q hq => by rw [i0 q (by have := hsh s hs q hq; omega) (by have := hsh s hs q hq; omega) (by have := hsh s hs q hq; omega)]) (by rw [sq _ (by omega) (by omega)]) (by rw [sq _ (by omega) (by omega)]) (by unfold slL; rw [sq (o + 32) (by omega) (by omega), sq (o + 33) (by omega) (by omega)]) (by rw [sq _ (by omega) (by omega)]) (by rw [sq _ (by omega) (by omega)]) (fun _ => ?_) (fun _ _ => rfl)
    unfold hlv
    rw [sq (o + 34) (by omega) (by omega), sq (o + 4) (by omega) (by omega), sq (o + 36) (by omega) (by omega), s0 2 (by omega)]
  · rw [r0 (a + 177 + s) (by omega) (by omega) (by omega) (by omega)] at hu
    obtain ⟨x1, x2⟩ := rl_sd h s hs u hu
    exact ⟨fun c a1 a2 => x1 c a1 (by rw [← s0 2 (by omega)]; exact a2), fun t ht hne => by rw [r0 (a + 177 + t) (by omega) (by omega) (by omega) (by omega)]; exact x2 t ht hne⟩
  · rw [ers] at hp
    obtain ⟨q, x1, x2⟩ := (rl_rs h).2.2 k p hp
    exact ⟨q, by rw [r0 (a + 6) (by omega) (by omega) (by omega) (by omega)]; exact x1, eE q p x2⟩
  · rw [r0 (a + 6) (by omega) (by omega) (by omega) (by omega)] at hv
    exact (rl_r7 h).1 j v a1 a2 hv
theorem rpK_up {T T1 : Nat → Nat} {N N1 : Nat → Int} {I I1 : Nat → Int → Int} {R R1 : Nat → Int → Option Nat} {a o : Nat} {σ σ1 : Nat → Int → Int} {A A1 : Int → Nat} (h : rpK T N I R a o σ A) (hp : rp σ o) (hPW : PW (σ (o + 2)) (σ o 2)) (hE : ∀ q p, reE T N I R a o q p → reE T1 N1 I1 R1 a o q p) (i3 : ∀ k, k ≠ 8 → I1 (a + 183) k = I (a + 183) k) (i7 : I1 (a + 187) = I (a + 187)) (r3 : R1 (a + 183) = R (a + 183)) (r4 : R1 (a + 184) = R (a + 184)) (r5 : R1 (a + 185) = R (a + 185)) (r8 : R1 (a + 188) = R (a + 188)) (s0 : ∀ k, k = 41 ∨ k = 42 ∨ k = 43 ∨ k = 44 ∨ k = 46 ∨ k = 47 → σ1 o k = σ o k) (s28 : σ1 (o + 28) = σ (o + 28)) (s30 : σ1 (o + 30) = σ (o + 30)) (sth : thR σ1 o = thR σ o) (skp : kpL σ1 o = kpL σ o) (hA : ∀ c, 0 ≤ c → c < σ o 2 → A1 c = A c) : rpK T1 N1 I1 R1 a o σ1 A1 := by
  obtain ⟨k1, k2, k3, k4, k5, k6, k7, k8⟩ := h
  obtain ⟨p1, p2, p3, p4, p5, p6⟩ := hp
  unfold rpK
  rw [i3 1 (by decide), i3 5 (by decide), i3 7 (by decide), i3 10 (by decide), i3 13 (by decide), i7, r3, r4, r5, r8, s28, s30, sth, skp, s0 41 (by omega), s0 42 (by omega), s0 43 (by omega), s0 44 (by omega), s0 46 (by omega), s0 47 (by omega)]
  refine ⟨k1, ⟨by rw [hA _ p4.1 p4.2]; exact k2.1, by rw [hA _ p3.1 p3.2]; exact k2.2⟩, fun k a1 a2 => ?_, fun k v hv => ?_, k5, k6, k7, fun k p hp => ?_⟩
  · have := p2 (σ o 46 - 1 - k) (by omega) (by omega)
    rw [hA _ (by omega) this.2]
    exact k3 k a1 a2
  · have hm : v ∈ thR σ o := List.mem_of_getElem? hv
    have hm2 := (List.mem_filter.mp hm).1
    have := path_in hPW _ _ v (Nat.le_refl _) p4.2 hm2
    rw [hA v this.1 (by omega)]
    exact k4 k v hv
  · obtain ⟨q, x1, x2⟩ := k8 k p hp
    exact ⟨q, x1, hE q p x2⟩
/-- the top's row is another one -/
theorem rl_ml {G : ax_G} {T : Nat → Nat} {N : Nat → Int} {I : Nat → Int → Int} {R : Nat → Int → Option Nat} {z a o : Nat} {σ : Nat → Int → Int} {A w : Int → Nat} {R1 : Nat → Int → Option Nat} {σ1 : Nat → Int → Int} (h : RelA G T N I R z a o σ A w) {t : Int} {r : Nat} {L : List Int} (ht : 0 ≤ t ∧ t < σ o 2) (hr : rwS T N I r) (hrL : N r = L.length ∧ seg (I r) 0 (L.length : Int) = L) (hro : o + 37 ≤ r) (hrs : ∀ s : Nat, s < 5 → R (a + 177 + s) 0 ≠ some r) (hR : R1 = ax_u R (A t) 4 (some r)) (s0 : ∀ k, σ1 o k = σ o k) (sq : ∀ q, q ≠ o → q ≠ o + 5 → q ≠ o + 6 → σ1 q = σ q) (s6 : ∀ c, c ≠ t → σ1 (o + 6) c = σ (o + 6) c) (s6t : σ1 (o + 6) t = L.length) (sr : ∀ c, 0 ≤ c → c < σ o 2 → c ≠ t → rowL σ1 o c = rowL σ o c) (srt : rowL σ1 o t = L) (rp9 : σ o 40 ≠ 0 → rpK T N I R1 a o σ1 A) : RelA G T N I R1 z a o σ1 A (fun c => if c = t then r else w c) := by
  have hx := rl_fx h
  have b0 := fx_b0 hx
  have b1 := fx_b1 hx
  have cs := rl_cs h
  have cc := rl_cc h
  have at_ := (cc t ht.1 ht.2).2.2.2.2.2.2.1
  have pt_ := (cs.2 t ht.1 ht.2).1
  have er : ∀ q, q ≠ A t → R1 q = R q := fun q hq => by rw [hR]; exact axu_row hq
  have et : ∀ k, k ≠ 4 → R1 (A t) k = R (A t) k := fun k hk => by rw [hR]; exact axu_j hk
  have inj : ∀ c, 0 ≤ c → c < σ o 2 → c ≠ t → A c ≠ A t := fun c c0 c1 hne e => by
    have e1 := (cs.2 c c0 c1).2.1
    have e2 := (cs.2 t ht.1 ht.2).2.1
    rw [e, e2] at e1
    exact hne e1.symm
  have hx' : fxS G T N R1 z a o := fx_up hx (fun _ _ => ⟨rfl, rfl⟩) (er a (by omega)) (er _ (by omega)) (fun k _ => by rw [er (a + 5) (by omega)]) (fun q a1 a2 => er q (by omega)) (fun k _ _ => by rw [er (a + 183) (by omega)]) (fun k _ _ => by rw [er (a + 189) (by omega)]) (Nat.le_refl _) (fx_tz hx)
  have eE : ∀ q p, reE T N I R a o q p → reE T N I R1 a o q p := fun q p hq => reE_up hq (fun _ _ => ⟨rfl, rfl⟩) (fun u hu _ hn => ⟨rfl, fun s hs => by rw [er _ (by omega)]; exact hn s hs⟩) (fun q hq h7 => er q (fun e => by rw [e] at h7; rcases pt_ with e9 | e9 | e9 <;> omega))
  have ers : rsL σ1 o = rsL σ o := rsL_eq (s0 30) (sq _ (by omega) (by omega) (by omega)) (sq _ (by omega) (by omega) (by omega)) (sq _ (by omega) (by omega) (by omega)) (sq _ (by omega) (by omega) (by omega))
  refine ⟨hx', rl_sg h, by rw [s0]; exact rl_n h, by rw [s0]; exact rl_t h, by rw [s0]; exact rl_f h, ⟨by rw [s0, sq (o + 2) (by omega) (by omega) (by omega)]; exact cs.1, fun c a1 a2 => ?_⟩, fun c a1 a2 => ?_, fun b d0 d1 => by rw [er (a + 3) (by omega), sq (o + 7) (by omega) (by omega) (by omega)]; exact rl_tp h b d0 d1, fun s hs => ?_, fun s hs u hu => ?_, ⟨by rw [ers]; exact (rl_rs h).1, by rw [ers]; exact (rl_rs h).2.1, fun k p hp => ?_⟩, ⟨fun j v a1 a2 hv => ?_, fun j v a1 a2 hv => ?_⟩, fun k e0 e1 => by rw [sq (o + 29) (by omega) (by omega) (by omega)]; exact rl_fg h k e0 e1, by rw [s0]; exact rl_st h, fun h9 => rp9 (by rw [← s0]; exact h9)⟩
  · rw [s0] at a2
    obtain ⟨d1, d2, d3, d4, d5⟩ := cs.2 c a1 a2
    rw [sq (o + 2) (by omega) (by omega) (by omega)]
    by_cases e : c = t
    · simp only [e, if_true]
      rw [e] at d1 d2 d3
      rw [et 2 (by decide)]
      exact ⟨d1, d2, d3, by rw [hR, axu_s], hr⟩
    · simp only [e, if_false]
      rw [er _ (inj c a1 a2 e)]
      exact ⟨d1, d2, d3, d4, d5⟩
  · rw [s0] at a2
    obtain ⟨g1, g2, g3, g4, g5, g6, g7, g8⟩ := cc c a1 a2
    rw [er (a + 2) (by omega), sq (o + 1) (by omega) (by omega) (by omega), sq (o + 3) (by omega) (by omega) (by omega)]
    by_cases e : c = t
    · simp only [e, if_true]
      rw [e] at g1 g2 g3 g4 g5 g7
      rw [et 0 (by decide), et 3 (by decide), s6t, srt]
      exact ⟨g1, g2, g3, g4, g5, hrL, g7, Or.inr hro⟩
    · simp only [e, if_false]
      rw [er _ (inj c a1 a2 e), s6 c e, sr c a1 a2 e]
      exact ⟨g1, g2, g3, g4, g5, g6, g7, g8⟩
  · refine slK_up (rl_sl h s hs) (fun _ _ => ⟨rfl, rfl⟩) rfl (er _ (by omega)) (fun _ _ => rfl) (fun _ _ => rfl) (by rw [sq _ (by omega) (by omega) (by omega)]) (by rw [sq _ (by omega) (by omega) (by omega)]) (by unfold slL; rw [sq (o + 32) (by omega) (by omega) (by omega), sq (o + 33) (by omega) (by omega) (by omega)]) (by rw [sq _ (by omega) (by omega) (by omega)]) (by rw [sq _ (by omega) (by omega) (by omega)]) (fun _ => ?_) (fun _ _ => rfl)
    unfold hlv
    rw [sq (o + 34) (by omega) (by omega) (by omega), sq (o + 4) (by omega) (by omega) (by omega), sq (o + 36) (by omega) (by omega) (by omega), s0]
  · rw [er (a + 177 + s) (by omega)] at hu
    obtain ⟨x1, x2⟩ := rl_sd h s hs u hu
    refine ⟨fun c a1 a2 => ?_, fun t2 ht2 hne => by rw [er (a + 177 + t2) (by omega)]; exact x2 t2 ht2 hne⟩
    rw [s0] at a2
    by_cases e : c = t
    · simp only [e, if_true]
      exact fun h9 => hrs s hs (by rw [h9]; exact hu)
    · simp only [e, if_false]
      exact x1 c a1 a2
  · rw [ers] at hp
    obtain ⟨q, x1, x2⟩ := (rl_rs h).2.2 k p hp
    exact ⟨q, by rw [er (a + 6) (by omega)]; exact x1, eE q p x2⟩
  · rw [er (a + 6) (by omega)] at hv
    exact (rl_r7 h).1 j v a1 a2 hv
  · rw [er (a + 188) (by omega)] at hv
    exact (rl_r7 h).2 j v a1 a2 hv

