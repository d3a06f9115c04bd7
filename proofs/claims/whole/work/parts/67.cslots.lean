/-! THE CLASS: slots, 3 -/
def fro (a o : Nat) (T : Nat → Nat) (N : Nat → Int) (I : Nat → Int → Int) (R : Nat → Int → Option Nat) (T1 : Nat → Nat) (N1 : Nat → Int) (I1 : Nat → Int → Int) (R1 : Nat → Int → Option Nat) : Prop := ∀ q, q < a ∨ (o ≤ q ∧ q < o + 37) → T1 q = T q ∧ N1 q = N q ∧ I1 q = I q ∧ R1 q = R q
/-- what a call leaves: the answer, and the relation to the new numbers -/
def rPX (G : ax_G) (T : Nat → Nat) (N : Nat → Int) (I : Nat → Int → Int) (R : Nat → Int → Option Nat) (z a o : Nat) (r : ax_V) (σ1 : Nat → Int → Int) : ax_P := fun r1 T1 N1 I1 R1 z1 => r1 = some r ∧ fro a o T N I R T1 N1 I1 R1 ∧ z ≤ z1 ∧ ∃ A1 w1, RelA G T1 N1 I1 R1 z1 a o σ1 A1 w1
theorem rl_f0 {G : ax_G} {T : Nat → Nat} {N : Nat → Int} {I : Nat → Int → Int} {R : Nat → Int → Option Nat} {z a o : Nat} {σ : Nat → Int → Int} {A w : Int → Nat} (h : RelA G T N I R z a o σ A w) (f : Int) : RelA G T N (ax_u I a 11 f) R z a o (ax_u σ o 0 f) A w := by
  have b1 := fx_b1 (rl_fx h)
  have hk := rl_sl h 0 (by decide)
  refine rl_slot h (s := 0) (by decide) (fun _ _ => ⟨rfl, rfl⟩) (Nat.le_refl _) (fx_tz (rl_fx h)) (fun q _ h1 _ _ => axu_row h1) (fun j hj => axu_j hj) (by rw [axu_s, axu_s]) (fun _ _ _ => rfl) (fun k hk => axu_j hk) (fun q h1 _ => axu_row h1) (fun t _ _ => ?_) ?_ (fun u hu => Or.inr hu)
  · rw [axu_row (by omega), axu_row (by omega), axu_row (by omega), axu_row (by omega), axu_row (by omega)]
    exact ⟨rfl, rfl, by unfold slL; rw [axu_row (by omega), axu_row (by omega)], rfl, rfl, rfl⟩
  · refine slK_up hk (fun _ _ => ⟨rfl, rfl⟩) (axu_row (by omega)) rfl (fun u hu => axu_row ?_) (fun q hq => ?_) (by rw [axu_row (by omega)]) (by rw [axu_row (by omega)]) (by unfold slL; rw [axu_row (by omega), axu_row (by omega)]) (by rw [axu_row (by omega)]) (by rw [axu_row (by omega)]) (fun _ => ?_) (fun _ _ => rfl)
    · obtain ⟨k1, k2, k3, k4, k5⟩ := hk
      rcases k2 with e | e | e | e
      · rw [(k3 e).1] at hu; cases hu
      · obtain ⟨-, -, u', y3, y4, -, -, y7⟩ := k4 (Or.inl e); rw [y3] at hu; cases hu; omega
      · obtain ⟨-, -, u', y3, y4, -, -, y7⟩ := k4 (Or.inr e); rw [y3] at hu; cases hu; omega
      · rw [(k5 e).1] at hu; cases hu
    · rw [axu_j (by decide : (5 : Int) ≠ 11) |> fun h => (by
        by_cases e : q = a
        · rw [e]; exact h
        · exact axu_a e : ax_u I a 11 f q 5 = I q 5)]
    · unfold hlv
      simp only [axu_row (show o + 34 ≠ o by omega), axu_row (show o + 4 ≠ o by omega), axu_row (show o + 36 ≠ o by omega), axu_j (show (2 : Int) ≠ 0 by decide)]
theorem fro_f {T : Nat → Nat} {N : Nat → Int} {I : Nat → Int → Int} {R : Nat → Int → Option Nat} {a o : Nat} {f : Int} (h : a < o) : fro a o T N I R T N (ax_u I a 11 f) R := fun q hq => ⟨rfl, rfl, axu_row (by omega), rfl⟩
theorem rl_px {G : ax_G} {T : Nat → Nat} {N : Nat → Int} {I : Nat → Int → Int} {R : Nat → Int → Option Nat} {z a o : Nat} {σ : Nat → Int → Int} {A w : Int → Nat} (h : RelA G T N I R z a o σ A w) (f : Int) {r : ax_V} : rPX G T N I R z a o r (ax_u σ o 0 f) (some r) T N (ax_u I a 11 f) R z := ⟨rfl, fro_f (by have := fx_b1 (rl_fx h); omega), Nat.le_refl _, A, w, rl_f0 h f⟩
theorem rl_p0 {G : ax_G} {T : Nat → Nat} {N : Nat → Int} {I : Nat → Int → Int} {R : Nat → Int → Option Nat} {z a o : Nat} {σ : Nat → Int → Int} {A w : Int → Nat} (h : RelA G T N I R z a o σ A w) {r : ax_V} : rPX G T N I R z a o r σ (some r) T N I R z := ⟨rfl, fun _ _ => ⟨rfl, rfl, rfl, rfl⟩, Nat.le_refl _, A, w, h⟩
theorem rl_sa {G : ax_G} {T : Nat → Nat} {N : Nat → Int} {I : Nat → Int → Int} {R : Nat → Int → Option Nat} {z a o : Nat} {σ : Nat → Int → Int} {A w : Int → Nat} (h : RelA G T N I R z a o σ A w) {J : Nat → Int → Int} {n : Nat} (hn : n < 5) : axE G YX11_slotAt 0 [vR a, vI (n : Int)] T N J R z (some (vR (a + 177 + n))) J := by
  have := c_slotAt (G := G) (I := J) (rl_fx h) (c := (n : Int)) (by constructor <;> omega)
  rw [if_pos (by omega), (fx_ss (rl_fx h) n hn).1] at this
  exact this
theorem rl_ns {G : ax_G} {T : Nat → Nat} {N : Nat → Int} {I : Nat → Int → Int} {R : Nat → Int → Option Nat} {z a o : Nat} {σ : Nat → Int → Int} {A w : Int → Nat} (h : RelA G T N I R z a o σ A w) {J : Nat → Int → Int} {s : Int} (rs : ax_r s) (hs : ¬ (0 ≤ s ∧ s < 5)) : axE G YX11_slotAt 0 [vR a, vI s] T N J R z (some vN) J := by
  have := c_slotAt (G := G) (I := J) (rl_fx h) (c := s) rs
  rw [if_neg hs] at this
  exact this
theorem rl_em {G : ax_G} {T : Nat → Nat} {N : Nat → Int} {I : Nat → Int → Int} {R : Nat → Int → Option Nat} {z a o : Nat} {σ : Nat → Int → Int} {A w : Int → Nat} (h : RelA G T N I R z a o σ A w) {n : Nat} (hn : n < 5) : (R (a + 177 + n) 0 = none ∧ R (a + 177 + n) 2 = none) ↔ σ (o + 31) n = -9 := by
  obtain ⟨k1, k2, k3, k4, k5⟩ := rl_sl h n hn
  refine ⟨fun h9 => ?_, k3⟩
  rcases k2 with e | e | e | e
  · exact e
  · obtain ⟨-, -, u, hu, -⟩ := k4 (Or.inl e); rw [h9.1] at hu; cases hu
  · obtain ⟨-, -, u, hu, -⟩ := k4 (Or.inr e); rw [h9.1] at hu; cases hu
  · obtain ⟨-, u, hu, -⟩ := k5 e; rw [h9.2] at hu; cases hu
theorem rl_sc2 {G : ax_G} {T : Nat → Nat} {N : Nat → Int} {I : Nat → Int → Int} {R : Nat → Int → Option Nat} {z a o : Nat} {σ : Nat → Int → Int} {A w : Int → Nat} (h : RelA G T N I R z a o σ A w) {n : Nat} (hn : n < 5) : ∀ q, R (a + 177 + n) 2 = some q → pT (T q) := fun q hq => by
  obtain ⟨k1, k2, k3, k4, k5⟩ := rl_sl h n hn
  rcases k2 with e | e | e | e
  · rw [(k3 e).2] at hq; cases hq
  · rw [(k4 (Or.inl e)).1] at hq; cases hq
  · rw [(k4 (Or.inr e)).1] at hq; cases hq
  · obtain ⟨-, u', y3, y4, -, y6, -⟩ := k5 e; rw [y3] at hq; cases hq; exact y4
theorem rl_so {G : ax_G} {T : Nat → Nat} {N : Nat → Int} {I : Nat → Int → Int} {R : Nat → Int → Option Nat} {z a o : Nat} {σ : Nat → Int → Int} {A w : Int → Nat} (h : RelA G T N I R z a o σ A w) {n : Nat} (hn : n < 5) : (R (a + 177 + n) 0 ≠ none ∧ I (a + 177 + n) 1 = 1 ↔ σ (o + 31) n = 0) ∧ (R (a + 177 + n) 0 ≠ none ∧ I (a + 177 + n) 1 = 0 ↔ σ (o + 31) n = 1) ∧ (∀ v, 2 ≤ v → (v - 2 ≤ kdO T (R (a + 177 + n) 2) ↔ σ (o + 31) n = 2 ∧ v - 2 ≤ σ (o + 35) n)) := by
  obtain ⟨k1, k2, k3, k4, k5⟩ := rl_sl h n hn
  rcases k2 with e | e | e | e
  · rw [(k3 e).1, (k3 e).2, e]; exact ⟨by simp, by simp, fun v hv => by show v - 2 ≤ -1 ↔ _; omega⟩
  · obtain ⟨x1, x2, u, x3, -⟩ := k4 (Or.inl e); rw [x1, x3, x2, e]; exact ⟨by simp, by simp, fun v hv => by show v - 2 ≤ -1 ↔ _; omega⟩
  · obtain ⟨x1, x2, u, x3, -⟩ := k4 (Or.inr e); rw [x1, x3, x2, e]; exact ⟨by simp, by simp, fun v hv => by show v - 2 ≤ -1 ↔ _; omega⟩
  · obtain ⟨x1, q, x3, x4, x5, -⟩ := k5 e; rw [x1, x3, e]; exact ⟨by simp, by simp, fun v hv => by show v - 2 ≤ kdT (T q) ↔ _; rw [x5]; omega⟩
/-- a slot's row in the numbers: one slot is laid anew, the others stay -/
theorem cl_o {σ : Nat → Int → Int} {o : Nat} {s t n : Int} : (∀ k, clI σ o s t n o k = σ o k) ∧ (∀ q, q < o + 31 ∨ o + 33 < q → clI σ o s t n q = σ q) ∧ (∀ j, j ≠ s → clI σ o s t n (o + 31) j = σ (o + 31) j ∧ clI σ o s t n (o + 32) j = σ (o + 32) j) ∧ clI σ o s t n (o + 31) s = t ∧ clI σ o s t n (o + 32) s = n ∧ (∀ j, j < 24 * s ∨ 24 * s + 24 ≤ j → clI σ o s t n (o + 33) j = σ (o + 33) j) ∧ ∀ j, 24 * s ≤ j → j < 24 * s + 24 → clI σ o s t n (o + 33) j = 0 := by
  unfold clI
  refine ⟨fun k => ?_, fun q hq => ?_, fun j hj => ⟨?_, ?_⟩, ?_, ?_, fun j hj => ?_, fun j h1 h2 => ?_⟩
  · rw [axf_a (by omega), axu_a (by omega), axu_a (by omega)]
  · funext j; rw [axf_a (by omega), axu_a (by omega), axu_a (by omega)]
  · rw [axf_a (by omega), axu_a (by omega), axu_j hj]
  · rw [axf_a (by omega), axu_j hj, axu_a (by omega)]
  · rw [axf_a (by omega), axu_a (by omega), axu_s]
  · rw [axf_a (by omega), axu_s]
  · rw [axf_out (by omega), axu_a (by omega), axu_a (by omega)]
  · rw [axf_in (by omega) (by omega)]
theorem slL_o {σ X : Nat → Int → Int} {o : Nat} {s t : Int} (h32 : X (o + 32) t = σ (o + 32) t) (hb : 0 ≤ σ (o + 32) t ∧ σ (o + 32) t ≤ 24) (hne : t ≠ s) (h33 : ∀ j, j < 24 * s ∨ 24 * s + 24 ≤ j → X (o + 33) j = σ (o + 33) j) : slL X o t = slL σ o t := by
  unfold slL
  rw [h32]
  exact seg_congr (fun k a1 a2 => h33 k (by omega))

set_option maxHeartbeats 4000000 in
set_option maxRecDepth 100000 in
theorem c_held {G : ax_G} {T : Nat → Nat} {N : Nat → Int} {I : Nat → Int → Int} {R : Nat → Int → Option Nat} {z a o : Nat} {σ : Nat → Int → Int} {A w : Int → Nat} (h : RelA G T N I R z a o σ A w) (hI : miC σ o) (hMS : miS σ o) {s : Int} (rs : ax_r s) : axM G YX11_held 2 [vR a, vI s] T N I R z 0 0 (rPX G T N I R z a o (vI (he σ o s).1) (he σ o s).2) := by
  refine ax_enter (by decide) (Nat.le_of_ble_eq_true rfl) (ax_cat rfl) (fun f hC => ?_)
  show axX G f 0 0 _ 0 [vR a, vI s, vU] [] T N I R z 0 0
  have hx := rl_fx h
  have b1 := fx_b1 hx
  unfold he
  by_cases hs5 : 0 ≤ s ∧ s < 5
  · obtain ⟨n, rfl⟩ : ∃ n : Nat, s = n := ⟨s.toNat, by omega⟩
    have hn : n < 5 := by omega
    have hem := rl_em h hn
    obtain ⟨k1, k2, k3, k4, k5⟩ := rl_sl h n hn
    rw [if_pos hs5]
    refine x_aload_n (pc := 0) hC dX11_held_0 rfl ?_
    refine x_iconst (pc := 1) hC dX11_held_1 ?_
    refine x_putI (pc := 2) hC pf_X11_77 dX11_held_2 (fx_ta hx) (by decide) ?_
    refine x_aload_n (pc := 5) hC dX11_held_5 rfl ?_
    refine x_iload_n (pc := 6) hC dX11_held_6 rfl ?_
    refine x_mV (pc := 7) hC cv_X11_85 dX11_held_7 (rl_sa h hn) (fx_ta hx) rfl (by decide) rfl rfl (Nat.le_of_ble_eq_true rfl) ?_
    dsimp only [Option.toList, List.cons_append, List.nil_append]
    refine x_astore_n (pc := 10) hC dX11_held_10 (Nat.le_of_ble_eq_true rfl) ?_
    dsimp only [List.set]
    refine x_aload_n (pc := 11) hC dX11_held_11 rfl ?_
    refine x_ifnonnull (pc := 12) hC 17 dX11_held_12 (by decide) (fun _ _ => ?_) (fun h => by cases h)
    rcases k2 with e | e | e | e
    · rw [if_neg (by omega), if_pos e]
      refine x_aload_n (pc := 17) hC dX11_held_17 rfl ?_
      refine x_getO (pc := 18) hC gf_X11_108 dX11_held_18 (fx_ss hx n hn).2 (k3 e).1 ?_
      refine x_ifnull (pc := 21) hC 30 dX11_held_21 (by decide) (fun _ => ?_) (fun _ h => by cases h)
      refine x_aload_n (pc := 30) hC dX11_held_30 rfl ?_
      refine x_getO (pc := 31) hC gf_X11_321 dX11_held_31 (fx_ss hx n hn).2 (k3 e).2 ?_
      refine x_ifnonnull (pc := 34) hC 43 dX11_held_34 (by decide) (fun _ h => by cases h) (fun _ => ?_)
      refine x_aload_n (pc := 37) hC dX11_held_37 rfl ?_
      refine x_iconst (pc := 38) hC dX11_held_38 ?_
      refine x_mV (pc := 39) hC cv_X11_97 dX11_held_39 (c_failBy hx) (fx_ta hx) rfl (by decide) rfl rfl (Nat.le_of_ble_eq_true rfl) ?_
      dsimp only [Option.toList, List.cons_append, List.nil_append]
      refine x_iret (pc := 42) hC rfl dX11_held_42 ?_
      rw [axu_uu]
      exact rl_px h 1
    · rw [if_pos (by omega)]
      obtain ⟨-, -, u, hu, u13, -⟩ := k4 (Or.inl e)
      refine x_aload_n (pc := 17) hC dX11_held_17 rfl ?_
      refine x_getO (pc := 18) hC gf_X11_108 dX11_held_18 (fx_ss hx n hn).2 hu ?_
      refine x_ifnull (pc := 21) hC 30 dX11_held_21 (by decide) (fun h => by cases h) (fun _ _ => ?_)
      refine x_aload_n (pc := 24) hC dX11_held_24 rfl ?_
      refine x_iconst (pc := 25) hC dX11_held_25 ?_
      refine x_mV (pc := 26) hC cv_X11_97 dX11_held_26 (c_failBy hx) (fx_ta hx) rfl (by decide) rfl rfl (Nat.le_of_ble_eq_true rfl) ?_
      dsimp only [Option.toList, List.cons_append, List.nil_append]
      refine x_iret (pc := 29) hC rfl dX11_held_29 ?_
      rw [axu_uu]
      exact rl_px h 2
    · rw [if_pos (by omega)]
      obtain ⟨-, -, u, hu, u13, -⟩ := k4 (Or.inr e)
      refine x_aload_n (pc := 17) hC dX11_held_17 rfl ?_
      refine x_getO (pc := 18) hC gf_X11_108 dX11_held_18 (fx_ss hx n hn).2 hu ?_
      refine x_ifnull (pc := 21) hC 30 dX11_held_21 (by decide) (fun h => by cases h) (fun _ _ => ?_)
      refine x_aload_n (pc := 24) hC dX11_held_24 rfl ?_
      refine x_iconst (pc := 25) hC dX11_held_25 ?_
      refine x_mV (pc := 26) hC cv_X11_97 dX11_held_26 (c_failBy hx) (fx_ta hx) rfl (by decide) rfl rfl (Nat.le_of_ble_eq_true rfl) ?_
      dsimp only [Option.toList, List.cons_append, List.nil_append]
      refine x_iret (pc := 29) hC rfl dX11_held_29 ?_
      rw [axu_uu]
      exact rl_px h 2
    · rw [if_neg (by omega), if_neg (by omega)]
      obtain ⟨k6, q, hq, qT, qk, qa, ql, qn⟩ := k5 e
      have qne : q ≠ a := by omega
      have q5 : ax_u I a 11 0 q 5 = I q 5 := axu_a qne
      have q1 : ax_u I a 11 0 q 1 = I q 1 := axu_a qne
      have hgr : (if σ (o + 34) n < σ o 2 ∧ σ (o + 4) (σ (o + 34) n) = σ (o + 36) n then σ (o + 34) n else -9) = (if I q 5 = 0 then I q 1 else -9) ∧ (I q 5 = 0 ∨ I q 5 = 1) := by
        have h34 := hMS.2.2.2.1 n
        by_cases hl : hlv σ o n
        · have e1 := ql hl
          have hc := rl_cc h (σ (o + 34) n) h34.1 hl.1
          have hcs := (rl_cs h).2 (σ (o + 34) n) h34.1 hl.1
          rw [if_pos (show σ (o + 34) n < σ o 2 ∧ σ (o + 4) (σ (o + 34) n) = σ (o + 36) n from hl), e1, hc.2.2.2.2.1, if_pos rfl, hcs.2.1]
          exact ⟨rfl, Or.inl rfl⟩
        · rw [if_neg (show ¬ (σ (o + 34) n < σ o 2 ∧ σ (o + 4) (σ (o + 34) n) = σ (o + 36) n) from hl), qn hl, if_neg (by decide)]
          exact ⟨rfl, Or.inr rfl⟩
      rw [hgr.1]
      refine x_aload_n (pc := 17) hC dX11_held_17 rfl ?_
      refine x_getO (pc := 18) hC gf_X11_108 dX11_held_18 (fx_ss hx n hn).2 k6 ?_
      refine x_ifnull (pc := 21) hC 30 dX11_held_21 (by decide) (fun _ => ?_) (fun _ h => by cases h)
      refine x_aload_n (pc := 30) hC dX11_held_30 rfl ?_
      refine x_getO (pc := 31) hC gf_X11_321 dX11_held_31 (fx_ss hx n hn).2 hq ?_
      refine x_ifnonnull (pc := 34) hC 43 dX11_held_34 (by decide) (fun _ _ => ?_) (fun h => by cases h)
      refine x_aload_n (pc := 43) hC dX11_held_43 rfl ?_
      refine x_getO (pc := 44) hC gf_X11_321 dX11_held_44 (fx_ss hx n hn).2 hq ?_
      refine x_getI (pc := 47) hC (gp_X11_324 qT) dX11_held_47 rfl ?_
      rw [q5]
      refine x_if_eq (pc := 50) hC 58 dX11_held_50 (by decide) (by omega) (fun b50 => ?_) (fun b50 => ?_)
      · refine x_aload_n (pc := 58) hC dX11_held_58 rfl ?_
        refine x_getO (pc := 59) hC gf_X11_321 dX11_held_59 (fx_ss hx n hn).2 hq ?_
        refine x_getI (pc := 62) hC (gp_X11_120 qT) dX11_held_62 rfl ?_
        refine x_iret (pc := 65) hC rfl dX11_held_65 ?_
        rw [if_pos (by omega), q1]
        exact rl_px h 0
      · refine x_bipush (pc := 53) hC dX11_held_53 (by decide) ?_
        refine x_goto (pc := 55) hC 65 dX11_held_55 (by decide) ?_
        refine x_iret (pc := 65) hC rfl dX11_held_65 ?_
        rw [if_neg (by omega)]
        exact rl_px h 0
  · rw [if_neg hs5]
    refine x_aload_n (pc := 0) hC dX11_held_0 rfl ?_
    refine x_iconst (pc := 1) hC dX11_held_1 ?_
    refine x_putI (pc := 2) hC pf_X11_77 dX11_held_2 (fx_ta hx) (by decide) ?_
    refine x_aload_n (pc := 5) hC dX11_held_5 rfl ?_
    refine x_iload_n (pc := 6) hC dX11_held_6 rfl ?_
    refine x_mV (pc := 7) hC cv_X11_85 dX11_held_7 (rl_ns h rs hs5) (fx_ta hx) rfl (by decide) rfl rfl (Nat.le_of_ble_eq_true rfl) ?_
    dsimp only [Option.toList, List.cons_append, List.nil_append]
    refine x_astore_n (pc := 10) hC dX11_held_10 (Nat.le_of_ble_eq_true rfl) ?_
    dsimp only [List.set]
    refine x_aload_n (pc := 11) hC dX11_held_11 rfl ?_
    refine x_ifnonnull (pc := 12) hC 17 dX11_held_12 (by decide) (fun _ h => by cases h) (fun _ => ?_)
    refine x_iconst (pc := 15) hC dX11_held_15 ?_
    refine x_iret (pc := 16) hC rfl dX11_held_16 ?_
    exact rl_px h 0

set_option maxHeartbeats 4000000 in
set_option maxRecDepth 100000 in
theorem c_as {G : ax_G} {T : Nat → Nat} {N : Nat → Int} {I : Nat → Int → Int} {R : Nat → Int → Option Nat} {z a o : Nat} {σ : Nat → Int → Int} {A w : Int → Nat} (h : RelA G T N I R z a o σ A w) (hI : miC σ o)  {s : Int} (rs : ax_r s) {v : Int} (rv : ax_r v) : axM G YX11_as 2 [vR a, vI s, vI v] T N I R z 0 0 (rPX G T N I R z a o (vI (asR σ o s v).1) (asR σ o s v).2) := by
  refine ax_enter (by decide) (Nat.le_of_ble_eq_true rfl) (ax_cat rfl) (fun f hC => ?_)
  show axX G f 0 0 _ 0 [vR a, vI s, vI v, vU] [] T N I R z 0 0
  have hx := rl_fx h
  have b1 := fx_b1 hx
  unfold asR
  by_cases hs5 : 0 ≤ s ∧ s < 5
  · obtain ⟨n, rfl⟩ : ∃ n : Nat, s = n := ⟨s.toNat, by omega⟩
    have hn : n < 5 := by omega
    have hem := rl_em h hn
    obtain ⟨k1, k2, k3, k4, k5⟩ := rl_sl h n hn
    have i1 : ax_u I a 11 0 (a + 177 + n) 1 = I (a + 177 + n) 1 := axu_a (by omega)
    have : Decidable (osP T (ax_u I a 11 0) R (a + 177 + n) v) := Classical.propDecidable _
    have has : 0 ≤ v → (osP T (ax_u I a 11 0) R (a + 177 + n) v ↔ asP σ o n v) := fun v0 => by
      obtain ⟨y1, y2, y3⟩ := rl_so h hn
      unfold osP asP
      rw [i1]
      by_cases e0 : v = 0
      · rw [if_pos e0, if_pos (by omega), e0]; exact y1
      · by_cases e1 : v = 1
        · rw [if_neg e0, if_pos e1, if_pos (by omega), e1]; exact y2
        · rw [if_neg e0, if_neg e1, if_neg (by omega)]; exact y3 v (by omega)
    rw [if_pos hs5]
    refine x_aload_n (pc := 0) hC dX11_as_0 rfl ?_
    refine x_iconst (pc := 1) hC dX11_as_1 ?_
    refine x_putI (pc := 2) hC pf_X11_77 dX11_as_2 (fx_ta hx) (by decide) ?_
    refine x_aload_n (pc := 5) hC dX11_as_5 rfl ?_
    refine x_iload_n (pc := 6) hC dX11_as_6 rfl ?_
    refine x_mV (pc := 7) hC cv_X11_85 dX11_as_7 (rl_sa h hn) (fx_ta hx) rfl (by decide) rfl rfl (Nat.le_of_ble_eq_true rfl) ?_
    dsimp only [Option.toList, List.cons_append, List.nil_append]
    refine x_astore_n (pc := 10) hC dX11_as_10 (Nat.le_of_ble_eq_true rfl) ?_
    dsimp only [List.set]
    refine x_aload_n (pc := 11) hC dX11_as_11 rfl ?_
    refine x_ifnonnull (pc := 12) hC 17 dX11_as_12 (by decide) (fun _ _ => ?_) (fun h => by cases h)
    refine x_iload_n (pc := 17) hC dX11_as_17 rfl ?_
    refine x_if_lt (pc := 18) hC 26 dX11_as_18 (by decide) (by omega) (fun b18 => ?_) (fun b18 => ?_)
    · refine x_bipush (pc := 26) hC dX11_as_26 (by decide) ?_
      refine x_iret (pc := 28) hC rfl dX11_as_28 ?_
      rw [if_neg (by omega)]
      exact rl_px h 0
    · refine x_iload_n (pc := 21) hC dX11_as_21 rfl ?_
      refine x_iconst (pc := 22) hC dX11_as_22 ?_
      refine x_icmp_le (pc := 23) hC 29 dX11_as_23 (by decide) (by omega) (by omega) (fun b23 => ?_) (fun b23 => ?_)
      · refine x_aload_n (pc := 29) hC dX11_as_29 rfl ?_
        refine x_mV (pc := 30) hC cv_X11_328 dX11_as_30 (c_isEmpty (fx_ss hx n hn).2) (fx_ss hx n hn).2 rfl (by decide) rfl rfl (Nat.le_of_ble_eq_true rfl) ?_
        dsimp only [Option.toList, List.cons_append, List.nil_append]
        refine x_ifB_eq (pc := 33) hC 42 dX11_as_33 (by decide) (fun b33 => ?_) (fun b33 => ?_)
        · refine x_aload_n (pc := 42) hC dX11_as_42 rfl ?_
          refine x_iload_n (pc := 43) hC dX11_as_43 rfl ?_
          refine x_mV (pc := 44) hC cv_X11_331 dX11_as_44 (c_isOfSort (fx_ss hx n hn).2 (by rw [i1]; exact k1) (by omega) (rl_sc2 h hn)) (fx_ss hx n hn).2 rfl (by decide) rfl rfl (Nat.le_of_ble_eq_true rfl) ?_
          dsimp only [Option.toList, List.cons_append, List.nil_append]
          refine x_ifB_eq (pc := 47) hC 54 dX11_as_47 (by decide) (fun b47 => ?_) (fun b47 => ?_)
          · refine x_aload_n (pc := 54) hC dX11_as_54 rfl ?_
            refine x_iconst (pc := 55) hC dX11_as_55 ?_
            refine x_mV (pc := 56) hC cv_X11_97 dX11_as_56 (c_failBy hx) (fx_ta hx) rfl (by decide) rfl rfl (Nat.le_of_ble_eq_true rfl) ?_
            dsimp only [Option.toList, List.cons_append, List.nil_append]
            refine x_iret (pc := 59) hC rfl dX11_as_59 ?_
            rw [if_pos (by omega), if_neg (fun h9 => b33 (hem.mpr h9)), if_neg (fun h9 => b47 ((has (by omega)).mpr h9)), axu_uu]
            exact rl_px h 2
          · refine x_iconst (pc := 50) hC dX11_as_50 ?_
            refine x_goto (pc := 51) hC 59 dX11_as_51 (by decide) ?_
            refine x_iret (pc := 59) hC rfl dX11_as_59 ?_
            rw [if_pos (by omega), if_neg (fun h9 => b33 (hem.mpr h9)), if_pos ((has (by omega)).mp b47)]
            exact rl_px h 0
        · refine x_aload_n (pc := 36) hC dX11_as_36 rfl ?_
          refine x_iconst (pc := 37) hC dX11_as_37 ?_
          refine x_mV (pc := 38) hC cv_X11_97 dX11_as_38 (c_failBy hx) (fx_ta hx) rfl (by decide) rfl rfl (Nat.le_of_ble_eq_true rfl) ?_
          dsimp only [Option.toList, List.cons_append, List.nil_append]
          refine x_iret (pc := 41) hC rfl dX11_as_41 ?_
          rw [if_pos (by omega), if_pos (hem.mp b33), axu_uu]
          exact rl_px h 1
      · refine x_bipush (pc := 26) hC dX11_as_26 (by decide) ?_
        refine x_iret (pc := 28) hC rfl dX11_as_28 ?_
        rw [if_neg (by omega)]
        exact rl_px h 0
  · rw [if_neg hs5]
    refine x_aload_n (pc := 0) hC dX11_as_0 rfl ?_
    refine x_iconst (pc := 1) hC dX11_as_1 ?_
    refine x_putI (pc := 2) hC pf_X11_77 dX11_as_2 (fx_ta hx) (by decide) ?_
    refine x_aload_n (pc := 5) hC dX11_as_5 rfl ?_
    refine x_iload_n (pc := 6) hC dX11_as_6 rfl ?_
    refine x_mV (pc := 7) hC cv_X11_85 dX11_as_7 (rl_ns h rs hs5) (fx_ta hx) rfl (by decide) rfl rfl (Nat.le_of_ble_eq_true rfl) ?_
    dsimp only [Option.toList, List.cons_append, List.nil_append]
    refine x_astore_n (pc := 10) hC dX11_as_10 (Nat.le_of_ble_eq_true rfl) ?_
    dsimp only [List.set]
    refine x_aload_n (pc := 11) hC dX11_as_11 rfl ?_
    refine x_ifnonnull (pc := 12) hC 17 dX11_as_12 (by decide) (fun _ h => by cases h) (fun _ => ?_)
    refine x_iconst (pc := 15) hC dX11_as_15 ?_
    refine x_iret (pc := 16) hC rfl dX11_as_16 ?_
    exact rl_px h 0

set_option maxHeartbeats 4000000 in
set_option maxRecDepth 100000 in
theorem c_lose {G : ax_G} {T : Nat → Nat} {N : Nat → Int} {I : Nat → Int → Int} {R : Nat → Int → Option Nat} {z a o : Nat} {σ : Nat → Int → Int} {A w : Int → Nat} (h : RelA G T N I R z a o σ A w) (hI : miC σ o)  {s : Int} (rs : ax_r s) : axM G YX11_lose 1 [vR a, vI s] T N I R z 0 0 (rPX G T N I R z a o (vI (lo σ o s).1) (lo σ o s).2) := by
  refine ax_enter (by decide) (Nat.le_of_ble_eq_true rfl) (ax_cat rfl) (fun f hC => ?_)
  show axX G f 0 0 _ 0 [vR a, vI s, vU, vU] [] T N I R z 0 0
  have hx := rl_fx h
  have b1 := fx_b1 hx
  unfold lo
  by_cases hs5 : 0 ≤ s ∧ s < 5
  · obtain ⟨n, rfl⟩ : ∃ n : Nat, s = n := ⟨s.toNat, by omega⟩
    have hn : n < 5 := by omega
    have hem := rl_em h hn
    obtain ⟨k1, k2, k3, k4, k5⟩ := rl_sl h n hn
    rw [if_pos hs5]
    refine x_aload_n (pc := 0) hC dX11_lose_0 rfl ?_
    refine x_iload_n (pc := 1) hC dX11_lose_1 rfl ?_
    refine x_mV (pc := 2) hC cv_X11_85 dX11_lose_2 (rl_sa h hn) (fx_ta hx) rfl (by decide) rfl rfl (Nat.le_of_ble_eq_true rfl) ?_
    dsimp only [Option.toList, List.cons_append, List.nil_append]
    refine x_astore_n (pc := 5) hC dX11_lose_5 (Nat.le_of_ble_eq_true rfl) ?_
    dsimp only [List.set]
    refine x_aload_n (pc := 6) hC dX11_lose_6 rfl ?_
    refine x_ifnonnull (pc := 7) hC 12 dX11_lose_7 (by decide) (fun _ _ => ?_) (fun h => by cases h)
    refine x_aload_n (pc := 12) hC dX11_lose_12 rfl ?_
    refine x_mV (pc := 13) hC cv_X11_328 dX11_lose_13 (c_isEmpty (fx_ss hx n hn).2) (fx_ss hx n hn).2 rfl (by decide) rfl rfl (Nat.le_of_ble_eq_true rfl) ?_
    dsimp only [Option.toList, List.cons_append, List.nil_append]
    refine x_ifB_ne (pc := 16) hC 23 dX11_lose_16 (by decide) (fun b16 => ?_) (fun b16 => ?_)
    · refine x_iconst (pc := 23) hC dX11_lose_23 ?_
      refine x_istore_n (pc := 24) hC dX11_lose_24 (Nat.le_of_ble_eq_true rfl) ?_
      dsimp only [List.set]
      refine x_aload_n (pc := 25) hC dX11_lose_25 rfl ?_
      refine x_null (pc := 26) hC dX11_lose_26 ?_
      refine x_rV (pc := 27) hC cv_X11_318 dX11_lose_27 (c_putCommit (x := none) (fx_ss hx n hn).2) (fx_ss hx n hn).2 rfl (by decide) rfl rfl (Nat.le_of_ble_eq_true rfl) ?_
      rintro v9 I5 S5 ⟨rfl, rfl, rfl⟩
      dsimp only [Option.toList, List.nil_append]
      refine x_iload_n (pc := 30) hC dX11_lose_30 rfl ?_
      refine x_if_eq (pc := 31) hC 38 dX11_lose_31 (by decide) (by omega) (fun b31 => ?_) (fun b31 => ?_)
      · refine x_iconst (pc := 38) hC dX11_lose_38 ?_
        refine x_iret (pc := 39) hC rfl dX11_lose_39 ?_
        first
        | rw [if_pos (hem.mp b16)]
        | rw [if_neg (fun h9 => b16 (hem.mpr h9))]
        refine ⟨rfl, fun q hq => ⟨rfl, rfl, rfl, by rw [axu_row (by omega), axu_row (by omega)]⟩, Nat.le_refl _, A, w, ?_⟩
        refine rl_slot h hn (fun _ _ => ⟨rfl, rfl⟩) (Nat.le_refl _) (fx_tz hx) (fun _ _ _ _ _ => rfl) (fun _ _ => rfl) (by rw [axu_a (by omega)]; exact rl_f h) (fun q _ hq => by rw [axu_row hq, axu_row hq]) (fun k hk => by rw [axu_a (by omega)]) (fun q h1 h2 => axu_row (by omega)) (fun t ht hne => ?_) ?_ (fun u hu => by rw [axu_j (by decide), axu_s] at hu; cases hu)
        · rw [axu_j (by omega), axu_row (show o + 32 ≠ o + 31 by omega), axu_row (show o + 34 ≠ o + 31 by omega), axu_row (show o + 35 ≠ o + 31 by omega), axu_row (show o + 36 ≠ o + 31 by omega)]
          exact ⟨rfl, rfl, by unfold slL; rw [axu_row (show o + 32 ≠ o + 31 by omega), axu_row (show o + 33 ≠ o + 31 by omega)], rfl, rfl, rfl⟩
        · unfold slK
          rw [axu_s, axu_j (by decide : (0 : Int) ≠ 2), axu_s, axu_s]
          exact ⟨k1, Or.inl rfl, fun _ => ⟨rfl, rfl⟩, fun h9 => absurd h9 (by decide), fun h9 => absurd h9 (by decide)⟩
      · refine x_iconst (pc := 34) hC dX11_lose_34 ?_
        refine x_goto (pc := 35) hC 39 dX11_lose_35 (by decide) ?_
        refine x_iret (pc := 39) hC rfl dX11_lose_39 ?_
        exfalso; exact absurd (by assumption) (by decide)
    · refine x_iconst (pc := 19) hC dX11_lose_19 ?_
      refine x_goto (pc := 20) hC 24 dX11_lose_20 (by decide) ?_
      refine x_istore_n (pc := 24) hC dX11_lose_24 (Nat.le_of_ble_eq_true rfl) ?_
      dsimp only [List.set]
      refine x_aload_n (pc := 25) hC dX11_lose_25 rfl ?_
      refine x_null (pc := 26) hC dX11_lose_26 ?_
      refine x_rV (pc := 27) hC cv_X11_318 dX11_lose_27 (c_putCommit (x := none) (fx_ss hx n hn).2) (fx_ss hx n hn).2 rfl (by decide) rfl rfl (Nat.le_of_ble_eq_true rfl) ?_
      rintro v9 I5 S5 ⟨rfl, rfl, rfl⟩
      dsimp only [Option.toList, List.nil_append]
      refine x_iload_n (pc := 30) hC dX11_lose_30 rfl ?_
      refine x_if_eq (pc := 31) hC 38 dX11_lose_31 (by decide) (by omega) (fun b31 => ?_) (fun b31 => ?_)
      · refine x_iconst (pc := 38) hC dX11_lose_38 ?_
        refine x_iret (pc := 39) hC rfl dX11_lose_39 ?_
        exfalso; exact absurd (by assumption) (by decide)
      · refine x_iconst (pc := 34) hC dX11_lose_34 ?_
        refine x_goto (pc := 35) hC 39 dX11_lose_35 (by decide) ?_
        refine x_iret (pc := 39) hC rfl dX11_lose_39 ?_
        first
        | rw [if_pos (hem.mp b16)]
        | rw [if_neg (fun h9 => b16 (hem.mpr h9))]
        refine ⟨rfl, fun q hq => ⟨rfl, rfl, rfl, by rw [axu_row (by omega), axu_row (by omega)]⟩, Nat.le_refl _, A, w, ?_⟩
        refine rl_slot h hn (fun _ _ => ⟨rfl, rfl⟩) (Nat.le_refl _) (fx_tz hx) (fun _ _ _ _ _ => rfl) (fun _ _ => rfl) (by rw [axu_a (by omega)]; exact rl_f h) (fun q _ hq => by rw [axu_row hq, axu_row hq]) (fun k hk => by rw [axu_a (by omega)]) (fun q h1 h2 => axu_row (by omega)) (fun t ht hne => ?_) ?_ (fun u hu => by rw [axu_j (by decide), axu_s] at hu; cases hu)
        · rw [axu_j (by omega), axu_row (show o + 32 ≠ o + 31 by omega), axu_row (show o + 34 ≠ o + 31 by omega), axu_row (show o + 35 ≠ o + 31 by omega), axu_row (show o + 36 ≠ o + 31 by omega)]
          exact ⟨rfl, rfl, by unfold slL; rw [axu_row (show o + 32 ≠ o + 31 by omega), axu_row (show o + 33 ≠ o + 31 by omega)], rfl, rfl, rfl⟩
        · unfold slK
          rw [axu_s, axu_j (by decide : (0 : Int) ≠ 2), axu_s, axu_s]
          exact ⟨k1, Or.inl rfl, fun _ => ⟨rfl, rfl⟩, fun h9 => absurd h9 (by decide), fun h9 => absurd h9 (by decide)⟩
  · rw [if_neg hs5]
    refine x_aload_n (pc := 0) hC dX11_lose_0 rfl ?_
    refine x_iload_n (pc := 1) hC dX11_lose_1 rfl ?_
    refine x_mV (pc := 2) hC cv_X11_85 dX11_lose_2 (rl_ns h rs hs5) (fx_ta hx) rfl (by decide) rfl rfl (Nat.le_of_ble_eq_true rfl) ?_
    dsimp only [Option.toList, List.cons_append, List.nil_append]
    refine x_astore_n (pc := 5) hC dX11_lose_5 (Nat.le_of_ble_eq_true rfl) ?_
    dsimp only [List.set]
    refine x_aload_n (pc := 6) hC dX11_lose_6 rfl ?_
    refine x_ifnonnull (pc := 7) hC 12 dX11_lose_7 (by decide) (fun _ h => by cases h) (fun _ => ?_)
    refine x_iconst (pc := 10) hC dX11_lose_10 ?_
    refine x_iret (pc := 11) hC rfl dX11_lose_11 ?_
    exact rl_p0 h

set_option maxHeartbeats 4000000 in
set_option maxRecDepth 100000 in
theorem c_hold {G : ax_G} {T : Nat → Nat} {N : Nat → Int} {I : Nat → Int → Int} {R : Nat → Int → Option Nat} {z a o : Nat} {σ : Nat → Int → Int} {A w : Int → Nat} (h : RelA G T N I R z a o σ A w) (hI : miC σ o) (hMS : miS σ o) {s c : Int} (rs : ax_r s) (rc : ax_r c) : axM G YX11_hold 1 [vR a, vI s, vI c] T N I R z 0 0 (rPX G T N I R z a o (vI (hd σ o s c).1) (hd σ o s c).2) := by
  refine ax_enter (by decide) (Nat.le_of_ble_eq_true rfl) (ax_cat rfl) (fun f hC => ?_)
  show axX G f 0 0 _ 0 [vR a, vI s, vI c, vU, vU] [] T N I R z 0 0
  have hx := rl_fx h
  have b1 := fx_b1 hx
  have hn9 := rl_n h
  have hC1 := hI.1
  unfold hd
  by_cases hs5 : 0 ≤ s ∧ s < 5
  · obtain ⟨n, rfl⟩ : ∃ n : Nat, s = n := ⟨s.toNat, by omega⟩
    have hn : n < 5 := by omega
    have hem := rl_em h hn
    obtain ⟨k1, k2, k3, k4, k5⟩ := rl_sl h n hn
    by_cases hc : 0 ≤ c ∧ c < σ o 2
    · rw [if_pos ⟨hs5, hc⟩]
      obtain ⟨c1, c2, -⟩ := (rl_cs h).2 c hc.1 hc.2
      obtain ⟨g1, g2, -, -, -, -, g7, -⟩ := rl_cc h c hc.1 hc.2
      refine x_aload_n (pc := 0) hC dX11_hold_0 rfl ?_
      refine x_iload_n (pc := 1) hC dX11_hold_1 rfl ?_
      refine x_mV (pc := 2) hC cv_X11_85 dX11_hold_2 (rl_sa h hn) (fx_ta hx) rfl (by decide) rfl rfl (Nat.le_of_ble_eq_true rfl) ?_
      dsimp only [Option.toList, List.cons_append, List.nil_append]
      refine x_astore_n (pc := 5) hC dX11_hold_5 (Nat.le_of_ble_eq_true rfl) ?_
      dsimp only [List.set]
      refine x_aload_n (pc := 6) hC dX11_hold_6 rfl ?_
      refine x_iload_n (pc := 7) hC dX11_hold_7 rfl ?_
      refine x_mV (pc := 8) hC cv_X11_123 dX11_hold_8 (rl_at h hI hc) (fx_ta hx) rfl (by decide) rfl rfl (Nat.le_of_ble_eq_true rfl) ?_
      dsimp only [Option.toList, List.cons_append, List.nil_append]
      refine x_astore (pc := 11) hC dX11_hold_11 (Nat.le_of_ble_eq_true rfl) ?_
      dsimp only [List.set]
      refine x_aload_n (pc := 13) hC dX11_hold_13 rfl ?_
      refine x_ifnull (pc := 14) hC 22 dX11_hold_14 (by decide) (fun h => by cases h) (fun _ _ => ?_)
      refine x_aload (pc := 17) hC dX11_hold_17 rfl ?_
      refine x_ifnonnull (pc := 19) hC 24 dX11_hold_19 (by decide) (fun _ _ => ?_) (fun h => by cases h)
      refine x_aload_n (pc := 24) hC dX11_hold_24 rfl ?_
      refine x_aload (pc := 25) hC dX11_hold_25 rfl ?_
      refine x_rV (pc := 27) hC cv_X11_318 dX11_hold_27 (c_putCommit (x := some (A c)) (fx_ss hx n hn).2) (fx_ss hx n hn).2 rfl (by decide) rfl rfl (Nat.le_of_ble_eq_true rfl) ?_
      rintro v9 I5 S5 ⟨rfl, rfl, rfl⟩
      dsimp only [Option.toList, List.nil_append]
      refine x_iconst (pc := 30) hC dX11_hold_30 ?_
      refine x_iret (pc := 31) hC rfl dX11_hold_31 ?_
      obtain ⟨y1, y2, y3, y4, y5, y6, y7⟩ := cl_o (σ := σ) (o := o) (s := (n : Int)) (t := 2) (n := 0)
      refine ⟨rfl, fun q hq => ⟨rfl, rfl, rfl, by rw [axu_row (by omega), axu_row (by omega)]⟩, Nat.le_refl _, A, w, ?_⟩
      refine rl_slot h hn (fun _ _ => ⟨rfl, rfl⟩) (Nat.le_refl _) (fx_tz hx) (fun _ _ _ _ _ => rfl) (fun _ _ => rfl) (by rw [axu_a (by omega), axu_a (by omega), axu_a (by omega), y1]; exact rl_f h) (fun q _ hq => by rw [axu_row hq, axu_row hq]) (fun k hk => by rw [axu_a (by omega), axu_a (by omega), axu_a (by omega), y1]) (fun q h1 h2 => by rw [axu_row (by omega), axu_row (by omega), axu_row (by omega), y2 q (by omega)]) (fun t ht hne => ?_) ?_ (fun u hu => by rw [axu_j (by decide), axu_s] at hu; cases hu)
      · have hne2 : (t : Int) ≠ n := by omega
        refine ⟨?_, ?_, ?_, ?_, ?_, ?_⟩
        · rw [axu_a (by omega), axu_a (by omega), axu_a (by omega), (y3 t hne2).1]
        · rw [axu_a (by omega), axu_a (by omega), axu_a (by omega), (y3 t hne2).2]
        · exact slL_o (s := (n : Int)) (by rw [axu_a (by omega), axu_a (by omega), axu_a (by omega), (y3 t hne2).2]) (hMS.2.1 t) hne2 (fun j hj => by rw [axu_a (by omega), axu_a (by omega), axu_a (by omega), y6 j hj])
        · rw [axu_a (by omega), axu_a (by omega), axu_j hne2, y2 _ (by omega)]
        · rw [axu_a (by omega), axu_j hne2, axu_a (by omega), y2 _ (by omega)]
        · rw [axu_j hne2, axu_a (by omega), axu_a (by omega), y2 _ (by omega)]
      · have e31 : ax_u (ax_u (ax_u (clI σ o n 2 0) (o + 34) n c) (o + 35) n (σ (o + 1) c)) (o + 36) n (σ (o + 4) c) (o + 31) n = 2 := by rw [axu_a (by omega), axu_a (by omega), axu_a (by omega)]; exact y4
        have e34 : ax_u (ax_u (ax_u (clI σ o n 2 0) (o + 34) n c) (o + 35) n (σ (o + 1) c)) (o + 36) n (σ (o + 4) c) (o + 34) n = c := by rw [axu_a (by omega), axu_a (by omega), axu_s]
        have e35 : ax_u (ax_u (ax_u (clI σ o n 2 0) (o + 34) n c) (o + 35) n (σ (o + 1) c)) (o + 36) n (σ (o + 4) c) (o + 35) n = σ (o + 1) c := by rw [axu_a (by omega), axu_s]
        have hlv1 : hlv (ax_u (ax_u (ax_u (clI σ o n 2 0) (o + 34) n c) (o + 35) n (σ (o + 1) c)) (o + 36) n (σ (o + 4) c)) o n := by
          unfold hlv
          rw [e34, axu_s, axu_a (by omega), axu_a (by omega), axu_a (by omega), axu_a (by omega), axu_a (by omega), axu_a (by omega), y1, y2 (o + 4) (by omega)]
          exact ⟨hc.2, rfl⟩
        unfold slK
        rw [e31, e35, axu_j (by decide : (0 : Int) ≠ 2), axu_s, axu_s]
        exact ⟨k1, Or.inr (Or.inr (Or.inr rfl)), fun h9 => absurd h9 (by decide), fun h9 => absurd h9 (by decide), fun _ => ⟨rfl, A c, rfl, c1, g2, g7, fun _ => by rw [e34], fun h9 => absurd hlv1 h9⟩⟩
    · rw [if_neg (fun h9 => hc h9.2)]
      refine x_aload_n (pc := 0) hC dX11_hold_0 rfl ?_
      refine x_iload_n (pc := 1) hC dX11_hold_1 rfl ?_
      refine x_mV (pc := 2) hC cv_X11_85 dX11_hold_2 (rl_sa h hn) (fx_ta hx) rfl (by decide) rfl rfl (Nat.le_of_ble_eq_true rfl) ?_
      dsimp only [Option.toList, List.cons_append, List.nil_append]
      refine x_astore_n (pc := 5) hC dX11_hold_5 (Nat.le_of_ble_eq_true rfl) ?_
      dsimp only [List.set]
      refine x_aload_n (pc := 6) hC dX11_hold_6 rfl ?_
      refine x_iload_n (pc := 7) hC dX11_hold_7 rfl ?_
      refine x_mV (pc := 8) hC cv_X11_123 dX11_hold_8 (rl_no h hI rc hc) (fx_ta hx) rfl (by decide) rfl rfl (Nat.le_of_ble_eq_true rfl) ?_
      dsimp only [Option.toList, List.cons_append, List.nil_append]
      refine x_astore (pc := 11) hC dX11_hold_11 (Nat.le_of_ble_eq_true rfl) ?_
      dsimp only [List.set]
      refine x_aload_n (pc := 13) hC dX11_hold_13 rfl ?_
      refine x_ifnull (pc := 14) hC 22 dX11_hold_14 (by decide) (fun h => by cases h) (fun _ _ => ?_)
      refine x_aload (pc := 17) hC dX11_hold_17 rfl ?_
      refine x_ifnonnull (pc := 19) hC 24 dX11_hold_19 (by decide) (fun _ h => by cases h) (fun _ => ?_)
      refine x_iconst (pc := 22) hC dX11_hold_22 ?_
      refine x_iret (pc := 23) hC rfl dX11_hold_23 ?_
      exact rl_p0 h
  · rw [if_neg (fun h9 => hs5 h9.1)]
    refine x_aload_n (pc := 0) hC dX11_hold_0 rfl ?_
    refine x_iload_n (pc := 1) hC dX11_hold_1 rfl ?_
    refine x_mV (pc := 2) hC cv_X11_85 dX11_hold_2 (rl_ns h rs hs5) (fx_ta hx) rfl (by decide) rfl rfl (Nat.le_of_ble_eq_true rfl) ?_
    dsimp only [Option.toList, List.cons_append, List.nil_append]
    refine x_astore_n (pc := 5) hC dX11_hold_5 (Nat.le_of_ble_eq_true rfl) ?_
    dsimp only [List.set]
    refine x_aload_n (pc := 6) hC dX11_hold_6 rfl ?_
    refine x_iload_n (pc := 7) hC dX11_hold_7 rfl ?_
    refine x_mV (pc := 8) hC cv_X11_123 dX11_hold_8 (c_commitAt hx (c := c) rc (by omega)) (fx_ta hx) rfl (by decide) rfl rfl (Nat.le_of_ble_eq_true rfl) ?_
    dsimp only [Option.toList, List.cons_append, List.nil_append]
    refine x_astore (pc := 11) hC dX11_hold_11 (Nat.le_of_ble_eq_true rfl) ?_
    dsimp only [List.set]
    refine x_aload_n (pc := 13) hC dX11_hold_13 rfl ?_
    refine x_ifnull (pc := 14) hC 22 dX11_hold_14 (by decide) (fun _ => ?_) (fun _ h => by cases h)
    refine x_iconst (pc := 22) hC dX11_hold_22 ?_
    refine x_iret (pc := 23) hC rfl dX11_hold_23 ?_
    exact rl_p0 h

