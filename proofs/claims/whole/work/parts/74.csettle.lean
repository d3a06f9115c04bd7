/-! THE CLASS: settle -/
theorem rl_gen2 {G : ax_G} {T : Nat → Nat} {N : Nat → Int} {I : Nat → Int → Int} {R : Nat → Int → Option Nat} {z a o : Nat} {σ : Nat → Int → Int} {A w : Int → Nat} {T1 : Nat → Nat} {N1 : Nat → Int} {I1 : Nat → Int → Int} {R1 : Nat → Int → Option Nat} {z1 : Nat} {σ1 : Nat → Int → Int} (h : RelA G T N I R z a o σ A w) (hT : ∀ q, q < z → T1 q = T q ∧ N1 q = N q) (hz : z ≤ z1) (tz : ∀ q, T1 q ≠ 99 → q < z1) (i0 : ∀ q, q < z → q ≠ a → q ≠ a + 1 → q ≠ a + 5 → I1 q = I q) (ia : ∀ j, j ≠ 11 → I1 a j = I a j) (f : I1 a 11 = σ1 o 0) (t : I1 (a + 1) 0 = σ1 o 1) (r0 : ∀ q, q < z → q ≠ a + 3 → q ≠ a + 6 → R1 q = R q) (s0 : ∀ k, k ≠ 0 → k ≠ 1 → k ≠ 30 → σ1 o k = σ o k) (sq : ∀ q, q ≠ o → q ≠ o + 7 → (q < o + 20 ∨ o + 23 < q) → σ1 q = σ q) (tp : ∀ b, 0 ≤ b → b < 4 → R1 (a + 3) b = some (A (σ1 (o + 7) b))) (rs : I1 (a + 5) 1 = (rsL σ1 o).length ∧ (rsL σ1 o).length ≤ 8 ∧ ∀ (k : Nat) (p : List Int × List Int), (rsL σ1 o)[k]? = some p → ∃ q, R1 (a + 6) k = some q ∧ reE T1 N1 I1 R1 a o q p) (r6 : r7 T1 R1 (a + 6)) (th : σ o 40 ≠ 0 → thR σ1 o = thR σ o) : RelA G T1 N1 I1 R1 z1 a o σ1 A w := by
  have hx := rl_fx h
  have b0 := fx_b0 hx
  have b1 := fx_b1 hx
  have n1 := (fx_nl hx).2
  have b2 := fx_b2 hx
  have tz0 := fx_tz hx
  have hT9 : ∀ q, T q ≠ 99 → T1 q = T q ∧ N1 q = N q := fun q hq => hT q (tz0 q hq)
  have hx' : fxS G T1 N1 R1 z1 a o := fx_up hx hT (r0 a (by omega) (by omega) (by omega)) (r0 _ (by omega) (by omega) (by omega)) (fun k _ => by rw [r0 (a + 5) (by omega) (by omega) (by omega)]) (fun q a1 a2 => r0 q (by omega) (by omega) (by omega)) (fun k _ _ => by rw [r0 (a + 183) (by omega) (by omega) (by omega)]) (fun k _ _ => by rw [r0 (a + 189) (by omega) (by omega) (by omega)]) hz tz
  have eA : ∀ c, 0 ≤ c → c < σ o 2 → I1 (A c) = I (A c) ∧ R1 (A c) = R (A c) ∧ I1 (w c) = I (w c) := fun c a1 a2 => by
    obtain ⟨-, -, -, -, -, -, c7, c8⟩ := rl_cc h c a1 a2
    obtain ⟨d1, -, -, -, d5⟩ := (rl_cs h).2 c a1 a2
    have e1 := tz0 (A c) (by rcases d1 with e | e | e <;> omega)
    have e2 := tz0 (w c) (by have := d5.1; omega)
    exact ⟨i0 _ e1 (by omega) (by omega) (by omega), r0 _ e1 (by omega) (by omega), i0 _ e2 (by omega) (by omega) (by omega)⟩
  have eE : ∀ q p, reE T N I R a o q p → reE T1 N1 I1 R1 a o q p := fun q p hq => reE_up hq hT9 (fun u hu h13 hn => ⟨i0 u (tz0 u (by omega)) (by omega) (by omega) (by omega), fun s hs => by rw [r0 _ (by omega) (by omega) (by omega)]; exact hn s hs⟩) (fun q hq h7 => r0 q (tz0 q (by omega)) (by omega) (by omega))
  have e6 : ∀ c, rowL σ1 o c = rowL σ o c := fun c => by unfold rowL rwI; rw [sq (o + 5) (by omega) (by omega) (by omega), sq (o + 6) (by omega) (by omega) (by omega)]
  have hCC := rl_C (σ1 := σ1) h hT9 (r0 (a + 2) (by omega) (by omega) (by omega)) eA (s0 2 (by decide) (by decide) (by decide)) (sq _ (by omega) (by omega) (by omega)) (sq _ (by omega) (by omega) (by omega)) (sq _ (by omega) (by omega) (by omega)) (sq _ (by omega) (by omega) (by omega)) (fun c _ _ => e6 c)
  have hsu : ∀ s : Nat, s < 5 → ∀ u, R (a + 177 + s) 0 = some u → o + 37 ≤ u := fun s hs u hu => by
    obtain ⟨k1, k2, k3, k4, k5⟩ := rl_sl h s hs
    rcases k2 with e | e | e | e
    · rw [(k3 e).1] at hu; cases hu
    · obtain ⟨-, -, u', x3, -, -, -, x7⟩ := k4 (Or.inl e); rw [x3] at hu; cases hu; exact x7
    · obtain ⟨-, -, u', x3, -, -, -, x7⟩ := k4 (Or.inr e); rw [x3] at hu; cases hu; exact x7
    · rw [(k5 e).1] at hu; cases hu
  have hsh : ∀ s : Nat, s < 5 → ∀ u, R (a + 177 + s) 2 = some u → u = a + 182 ∨ o + 37 ≤ u := fun s hs u hu => by
    obtain ⟨k1, k2, k3, k4, k5⟩ := rl_sl h s hs
    rcases k2 with e | e | e | e
    · rw [(k3 e).2] at hu; cases hu
    · rw [(k4 (Or.inl e)).1] at hu; cases hu
    · rw [(k4 (Or.inr e)).1] at hu; cases hu
    · obtain ⟨-, u', x3, -, -, x6, -⟩ := k5 e; rw [x3] at hu; cases hu; exact x6
  have hsz : ∀ s : Nat, s < 5 → ∀ u, R (a + 177 + s) 0 = some u → u < z := fun s hs u hu => by
    obtain ⟨k1, k2, k3, k4, k5⟩ := rl_sl h s hs
    rcases k2 with e | e | e | e
    · rw [(k3 e).1] at hu; cases hu
    · obtain ⟨-, -, u', x3, x4, -⟩ := k4 (Or.inl e); rw [x3] at hu; cases hu; exact tz0 u (by omega)
    · obtain ⟨-, -, u', x3, x4, -⟩ := k4 (Or.inr e); rw [x3] at hu; cases hu; exact tz0 u (by omega)
    · rw [(k5 e).1] at hu; cases hu
  refine ⟨hx', fun j hj => by rw [i0 (a + 176) (by omega) (by omega) (by omega) (by omega)]; exact rl_sg h j hj, by rw [ia 2 (by decide), s0 2 (by decide) (by decide) (by decide)]; exact rl_n h, t, f, hCC.1, hCC.2, tp, fun s hs => ?_, fun s hs u hu => ?_, rs, ⟨r6, fun j v a1 a2 hv => ?_⟩, fun k a1 a2 => by rw [i0 (a + 186) (by omega) (by omega) (by omega) (by omega), sq (o + 29) (by omega) (by omega) (by omega)]; exact rl_fg h k a1 a2, by rw [i0 (a + 183) (by omega) (by omega) (by omega) (by omega), s0 40 (by decide) (by decide) (by decide)]; exact rl_st h, fun h40 => ?_⟩
  · refine slK_up (rl_sl h s hs) hT9 (i0 _ (by omega) (by omega) (by omega) (by omega)) (r0 _ (by omega) (by omega) (by omega)) (fun u hu => i0 u (hsz s hs u hu) (by have := hsu s hs u hu; omega) (by have := hsu s hs u hu; omega) (by have := hsu s hs u hu; omega)) (fun q hq => by rw [i0 q (tz0 q (by have := rl_sc2 h hs q hq; rcases this with e | e | e <;> omega)) (by have := hsh s hs q hq; omega) (by have := hsh s hs q hq; omega) (by have := hsh s hs q hq; omega)]) (by rw [sq _ (by omega) (by omega) (by omega)]) (by rw [sq _ (by omega) (by omega) (by omega)]) (by unfold slL; rw [sq (o + 32) (by omega) (by omega) (by omega), sq (o + 33) (by omega) (by omega) (by omega)]) (by rw [sq _ (by omega) (by omega) (by omega)]) (by rw [sq _ (by omega) (by omega) (by omega)]) (fun _ => ?_) (fun _ _ => rfl)
    unfold hlv
    rw [sq (o + 34) (by omega) (by omega) (by omega), sq (o + 4) (by omega) (by omega) (by omega), sq (o + 36) (by omega) (by omega) (by omega), s0 2 (by decide) (by decide) (by decide)]
  · rw [r0 (a + 177 + s) (by omega) (by omega) (by omega)] at hu
    obtain ⟨x1, x2⟩ := rl_sd h s hs u hu
    exact ⟨fun c a1 a2 => x1 c a1 (by rw [← s0 2 (by decide) (by decide) (by decide)]; exact a2), fun t ht hne => by rw [r0 (a + 177 + t) (by omega) (by omega) (by omega)]; exact x2 t ht hne⟩
  · rw [r0 (a + 188) (by omega) (by omega) (by omega)] at hv
    have := (rl_r7 h).2 j v a1 a2 hv
    rw [(hT9 v (by omega)).1]; exact this
  · rw [s0 40 (by decide) (by decide) (by decide)] at h40
    refine rl_P (rl_rp h h40) eE (fun k _ => by rw [i0 (a + 183) (by omega) (by omega) (by omega) (by omega)]) (i0 _ (by omega) (by omega) (by omega) (by omega)) (r0 _ (by omega) (by omega) (by omega)) (r0 _ (by omega) (by omega) (by omega)) (r0 _ (by omega) (by omega) (by omega)) (r0 _ (by omega) (by omega) (by omega)) (fun k h0 h1 _ _ h30 _ => s0 k h0 h1 h30) (sq _ (by omega) (by omega) (by omega)) (sq _ (by omega) (by omega) (by omega)) (th h40) ?_
    unfold kpL
    rw [sq (o + 24) (by omega) (by omega) (by omega), sq (o + 25) (by omega) (by omega) (by omega), sq (o + 26) (by omega) (by omega) (by omega), sq (o + 27) (by omega) (by omega) (by omega), s0 35 (by decide) (by decide) (by decide)]

theorem st_rs {σ : Nat → Int → Int} {o : Nat} (h : miR σ o) {s : Int} {c : List Int × List Int} (hm : σ o 30 < 8) (hc : c.1.length ≤ 51) (hs : 0 ≤ σ (o + 32) s ∧ σ (o + 32) s ≤ 6) {X : Nat → Int → Int} (hX : X = stM σ o s c) : rsL X o = rsL σ o ++ [(c.1, (slL σ o s).map (stv c.2))] ∧ X o 30 = σ o 30 + 1 ∧ (∀ j, j ≠ 30 → X o j = σ o j) ∧ ∀ q, q ≠ o → (q < o + 20 ∨ o + 23 < q) → X q = σ q := by
  have hl := rsL_len h
  have h0 := h.1
  have hsz := h.2.2.1
  have hsw := h.2.2.2.2.1
  have e30 : ∀ j, X o j = ax_u σ o 30 (σ o 30 + 1) o j := fun j => by
    rw [hX]; unfold stM
    by_cases e : j = 30
    · rw [e, axu_s, axu_s]
    · rw [axu_j e, axf_a (by omega), axu_a (by omega), axf_a (by omega), axu_a (by omega), axu_j e]
  have e21 : ∀ j, X (o + 21) j = if j = σ o 30 then (c.1.length : Int) else σ (o + 21) j := fun j => by
    rw [hX]; unfold stM
    rw [axu_a (by omega), axf_a (by omega), axu_a (by omega), axf_a (by omega)]
    by_cases e : j = σ o 30
    · rw [if_pos e, e, axu_s]
    · rw [if_neg e, axu_j e]
  have e23 : ∀ j, X (o + 23) j = if j = σ o 30 then σ (o + 32) s else σ (o + 23) j := fun j => by
    rw [hX]; unfold stM
    rw [axu_a (by omega), axf_a (by omega)]
    by_cases e : j = σ o 30
    · rw [if_pos e, e, axu_s]
    · rw [if_neg e, axu_j e, axf_a (by omega), axu_a (by omega)]
  have e20 : ∀ j, j < 51 * σ o 30 → X (o + 20) j = σ (o + 20) j := fun j hj => by
    rw [hX]; unfold stM
    rw [axu_a (by omega), axf_a (by omega), axu_a (by omega), axf_out (by omega), axu_a (by omega)]
  have e22 : ∀ j, j < 6 * σ o 30 → X (o + 22) j = σ (o + 22) j := fun j hj => by
    rw [hX]; unfold stM
    rw [axu_a (by omega), axf_out (by omega), axu_a (by omega), axf_a (by omega), axu_a (by omega)]
  have hml : (((slL σ o s).map (stv c.2)).length : Int) = σ (o + 32) s := by
    rw [List.length_map]; unfold slL; rw [seg_len]; omega
  refine ⟨?_, by rw [e30, axu_s], fun j hj => by rw [e30, axu_j hj], fun q h1 h2 => by
    funext j
    rw [hX]; unfold stM
    rw [axu_a h1, axf_a (by omega), axu_a (by omega), axf_a (by omega), axu_a (by omega)]⟩
  apply List.ext_getElem?
  intro j
  by_cases hj : (j : Int) < σ o 30
  · rw [List.getElem?_append_left (by omega), rsL_at hj, rsL_at (by rw [e30, axu_s]; omega)]
    have hjm : (j : Int) ≠ σ o 30 := by omega
    congr 2
    · unfold rsK
      have s1 := hsz j
      rw [e21, if_neg hjm]
      exact seg_congr (fun i a1 a2 => e20 i (by omega))
    · unfold rsW
      have s1 := hsw j
      rw [e23, if_neg hjm]
      exact seg_congr (fun i a1 a2 => e22 i (by omega))
  · by_cases hj2 : (j : Int) = σ o 30
    · rw [List.getElem?_append_right (by omega), rsL_at (by rw [e30, axu_s]; omega), show j - (rsL σ o).length = 0 by omega]
      have k1 : rsK X o j = c.1 := by
        unfold rsK
        rw [e21, if_pos hj2]
        refine Eq.trans ?_ (seg_lf c.1)
        exact seg_shift (by omega) (fun i a1 a2 => by
          rw [hX]; unfold stM
          rw [axu_a (by omega), axf_a (by omega), axu_a (by omega), axf_in (by omega) (by omega)]
          congr 1; omega)
      have k2 : rsW X o j = (slL σ o s).map (stv c.2) := by
        unfold rsW
        rw [e23, if_pos hj2]
        refine Eq.trans ?_ (seg_lf _)
        rw [hml]
        exact seg_shift (by omega) (fun i a1 a2 => by
          rw [hX]; unfold stM
          rw [axu_a (by omega), axf_in (by omega) (by omega)]
          congr 1; omega)
      rw [k1, k2]
      rfl
    · rw [List.getElem?_eq_none (by simp only [rsL, List.length_map, List.length_range]; rw [e30, axu_s]; omega), List.getElem?_eq_none (by rw [List.length_append, List.length_singleton]; omega)]

