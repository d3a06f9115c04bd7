/-! THE CLASS: slots, 5; small changes -/
theorem fe0 {N : Nat → Int} {R : Nat → Int → Option Nat} {s : Nat} {i : Int} (h : feR N R s i = 0) : ∃ u, R s 0 = some u ∧ 0 ≤ i ∧ i < N u := by
  unfold feR at h
  cases e : R s 0 with
  | none => rw [e] at h; dsimp only at h; split at h <;> omega
  | some u =>
    rw [e] at h
    dsimp only at h
    split at h
    · exact ⟨u, rfl, by assumption⟩
    · omega
theorem an_r (σ : Nat → Int → Int) (o : Nat) (s i : Int) : 0 ≤ anR σ o s i ∧ anR σ o s i ≤ 3 := by
  unfold anR
  split
  · omega
  · split
    · omega
    · split <;> omega
theorem rl_gen {G : ax_G} {T : Nat → Nat} {N : Nat → Int} {I : Nat → Int → Int} {R : Nat → Int → Option Nat} {z a o : Nat} {σ : Nat → Int → Int} {A w : Int → Nat} {I1 : Nat → Int → Int} {R1 : Nat → Int → Option Nat} {σ1 : Nat → Int → Int} (h : RelA G T N I R z a o σ A w) (i0 : ∀ q, q ≠ a → q ≠ a + 1 → q ≠ a + 5 → I1 q = I q) (ia : ∀ j, j ≠ 11 → I1 a j = I a j) (f : I1 a 11 = σ1 o 0) (t : I1 (a + 1) 0 = σ1 o 1) (r0 : ∀ q, q ≠ a + 3 → q ≠ a + 6 → R1 q = R q) (s0 : ∀ k, k ≠ 0 → k ≠ 1 → k ≠ 30 → σ1 o k = σ o k) (sq : ∀ q, q ≠ o → q ≠ o + 7 → (q < o + 20 ∨ o + 23 < q) → σ1 q = σ q) (tp : ∀ b, 0 ≤ b → b < 4 → R1 (a + 3) b = some (A (σ1 (o + 7) b))) (rs : I1 (a + 5) 1 = (rsL σ1 o).length ∧ (rsL σ1 o).length ≤ 8 ∧ ∀ (k : Nat) (p : List Int × List Int), (rsL σ1 o)[k]? = some p → ∃ q, R1 (a + 6) k = some q ∧ reE T N I R a o q p) (r6 : r7 T R1 (a + 6)) (th : σ o 40 ≠ 0 → thR σ1 o = thR σ o) : RelA G T N I1 R1 z a o σ1 A w := by
  have hx := rl_fx h
  have b0 := fx_b0 hx
  have b1 := fx_b1 hx
  have n1 := (fx_nl hx).2
  have hx' : fxS G T N R1 z a o := fx_up hx (fun _ _ => ⟨rfl, rfl⟩) (r0 a (by omega) (by omega)) (r0 _ (by omega) (by omega)) (fun k _ => by rw [r0 (a + 5) (by omega) (by omega)]) (fun q a1 a2 => r0 q (by omega) (by omega)) (fun k _ _ => by rw [r0 (a + 183) (by omega) (by omega)]) (fun k _ _ => by rw [r0 (a + 189) (by omega) (by omega)]) (Nat.le_refl _) (fx_tz hx)
  have eA : ∀ c, 0 ≤ c → c < σ o 2 → I1 (A c) = I (A c) ∧ R1 (A c) = R (A c) ∧ I1 (w c) = I (w c) := fun c a1 a2 => by
    obtain ⟨-, -, -, -, -, -, c7, c8⟩ := rl_cc h c a1 a2
    exact ⟨i0 _ (by omega) (by omega) (by omega), r0 _ (by omega) (by omega), i0 _ (by omega) (by omega) (by omega)⟩
  have eE : ∀ q p, reE T N I R a o q p → reE T N I1 R1 a o q p := fun q p hq => reE_up hq (fun _ _ => ⟨rfl, rfl⟩) (fun u hu _ hn => ⟨i0 u (by omega) (by omega) (by omega), fun s hs => by rw [r0 _ (by omega) (by omega)]; exact hn s hs⟩) (fun q hq _ => r0 q (by omega) (by omega))
  have e6 : ∀ c, rowL σ1 o c = rowL σ o c := fun c => by unfold rowL rwI; rw [sq (o + 5) (by omega) (by omega) (by omega), sq (o + 6) (by omega) (by omega) (by omega)]
  have hCC := rl_C (σ1 := σ1) h (fun _ _ => ⟨rfl, rfl⟩) (r0 (a + 2) (by omega) (by omega)) eA (s0 2 (by decide) (by decide) (by decide)) (sq _ (by omega) (by omega) (by omega)) (sq _ (by omega) (by omega) (by omega)) (sq _ (by omega) (by omega) (by omega)) (sq _ (by omega) (by omega) (by omega)) (fun c _ _ => e6 c)
  have hsu : ∀ s : Nat, s < 5 → ∀ u, R (a + 177 + s) 0 = some u → o + 37 ≤ u := fun s hs u hu => by
    obtain ⟨k1, k2, k3, k4, k5⟩ := rl_sl h s hs
    rcases k2 with e | e | e | e
    · rw [(k3 e).1] at hu; cases hu
    · obtain ⟨-, -, u', x3, -, -, -, x7⟩ := k4 (Or.inl e); rw [x3] at hu; cases hu; exact x7
    · obtain ⟨-, -, u', x3, -, -, -, x7⟩ := k4 (Or.inr e); rw [x3] at hu; cases hu; exact x7
    · rw [(k5 e).1] at hu; cases hu
  have hsh : ∀ s : Nat, s < 5 → ∀ u, R (a + 177 + s) 2 = some u → u = a + 182 ∨ o + 37 ≤ u := fun s hs u hu => by
    obtain ⟨k1, k2, k3, k4, k5⟩ := rl_sl h s hs
    rcases k2 with e | e | e | e
    · rw [(k3 e).2] at hu; cases hu
    · rw [(k4 (Or.inl e)).1] at hu; cases hu
    · rw [(k4 (Or.inr e)).1] at hu; cases hu
    · obtain ⟨-, u', x3, -, -, x6, -⟩ := k5 e; rw [x3] at hu; cases hu; exact x6
  refine ⟨hx', fun j hj => by rw [i0 (a + 176) (by omega) (by omega) (by omega)]; exact rl_sg h j hj, by rw [ia 2 (by decide), s0 2 (by decide) (by decide) (by decide)]; exact rl_n h, t, f, hCC.1, hCC.2, tp, fun s hs => ?_, fun s hs u hu => ?_, ⟨rs.1, rs.2.1, fun k p hp => ?_⟩, ⟨r6, fun j v a1 a2 hv => ?_⟩, fun k a1 a2 => by rw [i0 (a + 186) (by omega) (by omega) (by omega), sq (o + 29) (by omega) (by omega) (by omega)]; exact rl_fg h k a1 a2, by rw [i0 (a + 183) (by omega) (by omega) (by omega), s0 40 (by decide) (by decide) (by decide)]; exact rl_st h, fun h40 => ?_⟩
  · refine slK_up (rl_sl h s hs) (fun _ _ => ⟨rfl, rfl⟩) (i0 _ (by omega) (by omega) (by omega)) (r0 _ (by omega) (by omega)) (fun u hu => i0 u (by have := hsu s hs u hu; omega) (by have := hsu s hs u hu; omega) (by have := hsu s hs u hu; omega)) (fun q hq => by rw [i0 q (by have := hsh s hs q hq; omega) (by have := hsh s hs q hq; omega) (by have := hsh s hs q hq; omega)]) (by rw [sq _ (by omega) (by omega) (by omega)]) (by rw [sq _ (by omega) (by omega) (by omega)]) (by unfold slL; rw [sq (o + 32) (by omega) (by omega) (by omega), sq (o + 33) (by omega) (by omega) (by omega)]) (by rw [sq _ (by omega) (by omega) (by omega)]) (by rw [sq _ (by omega) (by omega) (by omega)]) (fun _ => ?_) (fun _ _ => rfl)
    unfold hlv
    rw [sq (o + 34) (by omega) (by omega) (by omega), sq (o + 4) (by omega) (by omega) (by omega), sq (o + 36) (by omega) (by omega) (by omega), s0 2 (by decide) (by decide) (by decide)]
  · rw [r0 (a + 177 + s) (by omega) (by omega)] at hu
    obtain ⟨x1, x2⟩ := rl_sd h s hs u hu
    exact ⟨fun c a1 a2 => x1 c a1 (by rw [← s0 2 (by decide) (by decide) (by decide)]; exact a2), fun t ht hne => by rw [r0 (a + 177 + t) (by omega) (by omega)]; exact x2 t ht hne⟩
  · obtain ⟨q, x1, x2⟩ := rs.2.2 k p hp
    exact ⟨q, x1, eE q p x2⟩
  · rw [r0 (a + 188) (by omega) (by omega)] at hv
    exact (rl_r7 h).2 j v a1 a2 hv
  · rw [s0 40 (by decide) (by decide) (by decide)] at h40
    refine rl_P (rl_rp h h40) eE (fun k _ => by rw [i0 (a + 183) (by omega) (by omega) (by omega)]) (i0 _ (by omega) (by omega) (by omega)) (r0 _ (by omega) (by omega)) (r0 _ (by omega) (by omega)) (r0 _ (by omega) (by omega)) (r0 _ (by omega) (by omega)) (fun k h0 h1 _ _ h30 _ => s0 k h0 h1 h30) (sq _ (by omega) (by omega) (by omega)) (sq _ (by omega) (by omega) (by omega)) (th h40) ?_
    unfold kpL
    rw [sq (o + 24) (by omega) (by omega) (by omega), sq (o + 25) (by omega) (by omega) (by omega), sq (o + 26) (by omega) (by omega) (by omega), sq (o + 27) (by omega) (by omega) (by omega), s0 35 (by decide) (by decide) (by decide)]

set_option maxHeartbeats 4000000 in
set_option maxRecDepth 100000 in
theorem c_write {G : ax_G} {T : Nat → Nat} {N : Nat → Int} {I : Nat → Int → Int} {R : Nat → Int → Option Nat} {z a o : Nat} {σ : Nat → Int → Int} {A w : Int → Nat} (h : RelA G T N I R z a o σ A w) (hI : miC σ o) (hMS : miS σ o) {s : Int} (rs : ax_r s) {i : Int} (ri : ax_r i) {v : Int} (rv : ax_r v) : axM G YX11_write 2 [vR a, vI s, vI i, vI v] T N I R z 0 0 (rPX G T N I R z a o (vI (wr σ o s i v).1) (wr σ o s i v).2) := by
  refine ax_enter (by decide) (Nat.le_of_ble_eq_true rfl) (ax_cat rfl) (fun f hC => ?_)
  show axX G f 0 0 _ 0 [vR a, vI s, vI i, vI v, vU, vU] [] T N I R z 0 0
  have hx := rl_fx h
  have b1 := fx_b1 hx
  unfold wr
  by_cases hs5 : 0 ≤ s ∧ s < 5
  · obtain ⟨n, rfl⟩ : ∃ n : Nat, s = n := ⟨s.toNat, by omega⟩
    have hn : n < 5 := by omega
    have hem := rl_em h hn
    obtain ⟨k1, k2, k3, k4, k5⟩ := rl_sl h n hn
    have har := an_r σ o n i
    rw [if_pos hs5]
    refine x_aload_n (pc := 0) hC dX11_write_0 rfl ?_
    refine x_iconst (pc := 1) hC dX11_write_1 ?_
    refine x_putI (pc := 2) hC pf_X11_77 dX11_write_2 (fx_ta hx) (by decide) ?_
    refine x_aload_n (pc := 5) hC dX11_write_5 rfl ?_
    refine x_iload_n (pc := 6) hC dX11_write_6 rfl ?_
    refine x_mV (pc := 7) hC cv_X11_85 dX11_write_7 (rl_sa h hn) (fx_ta hx) rfl (by decide) rfl rfl (Nat.le_of_ble_eq_true rfl) ?_
    dsimp only [Option.toList, List.cons_append, List.nil_append]
    refine x_astore (pc := 10) hC dX11_write_10 (Nat.le_of_ble_eq_true rfl) ?_
    dsimp only [List.set]
    refine x_aload (pc := 12) hC dX11_write_12 rfl ?_
    refine x_ifnonnull (pc := 14) hC 19 dX11_write_14 (by decide) (fun _ _ => ?_) (fun h => by cases h)
    refine x_aload (pc := 19) hC dX11_write_19 rfl ?_
    refine x_iload_n (pc := 21) hC dX11_write_21 rfl ?_
    refine x_mV (pc := 22) hC cv_X11_334 dX11_write_22 (c_faultAtElement (fx_ss hx n hn).2 ri (fun r hr => (rl_ar h hMS hn r hr).1)) (fx_ss hx n hn).2 rfl (by decide) rfl rfl (Nat.le_of_ble_eq_true rfl) ?_
    dsimp only [Option.toList, List.cons_append, List.nil_append]
    rw [rl_fe h hn i]
    refine x_istore (pc := 25) hC dX11_write_25 (Nat.le_of_ble_eq_true rfl) ?_
    dsimp only [List.set]
    refine x_iload (pc := 27) hC dX11_write_27 rfl ?_
    refine x_if_eq (pc := 29) hC 39 dX11_write_29 (by decide) (by omega) (fun b29 => ?_) (fun b29 => ?_)
    · have han : anR σ o n i = 0 := by assumption
      rw [if_pos han]
      rw [← rl_fe h hn i] at han
      obtain ⟨u, hu, i0, i1⟩ := fe0 han
      obtain ⟨⟨t1, t2, t3⟩, ⟨t4, t5, t6, t7, t8⟩, t9⟩ := rl_ar h hMS hn u hu
      have hb24 := hMS.2.1 n
      have eS : ax_u I a 11 0 (a + 177 + n) 1 = I (a + 177 + n) 1 := axu_a (by omega)
      refine x_aload (pc := 39) hC dX11_write_39 rfl ?_
      refine x_getO (pc := 41) hC gf_X11_108 dX11_write_41 (fx_ss hx n hn).2 hu ?_
      refine x_iload_n (pc := 44) hC dX11_write_44 rfl ?_
      refine x_aload (pc := 45) hC dX11_write_45 rfl ?_
      refine x_getI (pc := 47) hC gf_X11_337 dX11_write_47 (fx_ss hx n hn).2 ?_
      rw [eS]
      refine x_if_eq (pc := 50) hC 58 dX11_write_50 (by decide) (by omega) (fun b50 => ?_) (fun b50 => ?_)
      · refine x_iload_n (pc := 58) hC dX11_write_58 rfl ?_
        refine x_iast (pc := 59) hC dX11_write_59 t1 (by omega) (by omega) ?_
        refine x_iconst (pc := 60) hC dX11_write_60 ?_
        refine x_iret (pc := 61) hC rfl dX11_write_61 ?_
        first
        | rw [if_pos (show σ (o + 31) n = 0 by omega)]
        | rw [if_neg (show ¬ σ (o + 31) n = 0 by omega)]
        dsimp only
        refine ⟨rfl, fun q hq => ⟨rfl, rfl, by rw [axu_row (by omega), axu_row (by omega)], rfl⟩, Nat.le_refl _, A, w, ?_⟩
        refine rl_wr h hMS hn hu (fun q h1 h2 => by rw [axu_row h2, axu_row h1]) (fun j hj => by rw [axu_a (by omega), axu_j hj]) (by rw [axu_a (by omega), axu_s, axu_s]) (fun j hj => by rw [axu_j hj, axu_a (by omega)]) (fun q h1 h2 => by rw [axu_row h1, axu_row h2]) (fun j hj => by rw [axu_a (by omega), axu_j (by omega)]) (fun j j0 j1 => ?_)
        rw [axu_a (show o + 33 ≠ o by omega)]
        by_cases e : j = i
        · rw [e, axu_s, axu_s]
        · rw [axu_j e, axu_j (show 24 * (n : Int) + j ≠ 24 * (n : Int) + i by omega), axu_a (show u ≠ a by omega)]
          exact t9 j j0 j1
      · refine x_iload_n (pc := 53) hC dX11_write_53 rfl ?_
        refine x_i2b (pc := 54) hC dX11_write_54 (by omega) ?_
        refine x_goto (pc := 55) hC 59 dX11_write_55 (by decide) ?_
        refine x_iast (pc := 59) hC dX11_write_59 t1 (by omega) (by omega) ?_
        refine x_iconst (pc := 60) hC dX11_write_60 ?_
        refine x_iret (pc := 61) hC rfl dX11_write_61 ?_
        first
        | rw [if_pos (show σ (o + 31) n = 0 by omega)]
        | rw [if_neg (show ¬ σ (o + 31) n = 0 by omega)]
        dsimp only
        refine ⟨rfl, fun q hq => ⟨rfl, rfl, by rw [axu_row (by omega), axu_row (by omega)], rfl⟩, Nat.le_refl _, A, w, ?_⟩
        refine rl_wr h hMS hn hu (fun q h1 h2 => by rw [axu_row h2, axu_row h1]) (fun j hj => by rw [axu_a (by omega), axu_j hj]) (by rw [axu_a (by omega), axu_s, axu_s]) (fun j hj => by rw [axu_j hj, axu_a (by omega)]) (fun q h1 h2 => by rw [axu_row h1, axu_row h2]) (fun j hj => by rw [axu_a (by omega), axu_j (by omega)]) (fun j j0 j1 => ?_)
        rw [axu_a (show o + 33 ≠ o by omega)]
        by_cases e : j = i
        · rw [e, axu_s, axu_s]
        · rw [axu_j e, axu_j (show 24 * (n : Int) + j ≠ 24 * (n : Int) + i by omega), axu_a (show u ≠ a by omega)]
          exact t9 j j0 j1
    · refine x_aload_n (pc := 32) hC dX11_write_32 rfl ?_
      refine x_iload (pc := 33) hC dX11_write_33 rfl ?_
      refine x_mV (pc := 35) hC cv_X11_97 dX11_write_35 (c_failBy hx) (fx_ta hx) rfl (by decide) rfl rfl (Nat.le_of_ble_eq_true rfl) ?_
      dsimp only [Option.toList, List.cons_append, List.nil_append]
      refine x_iret (pc := 38) hC rfl dX11_write_38 ?_
      rw [if_neg (by assumption), axu_uu]
      exact rl_px h _
  · rw [if_neg hs5]
    refine x_aload_n (pc := 0) hC dX11_write_0 rfl ?_
    refine x_iconst (pc := 1) hC dX11_write_1 ?_
    refine x_putI (pc := 2) hC pf_X11_77 dX11_write_2 (fx_ta hx) (by decide) ?_
    refine x_aload_n (pc := 5) hC dX11_write_5 rfl ?_
    refine x_iload_n (pc := 6) hC dX11_write_6 rfl ?_
    refine x_mV (pc := 7) hC cv_X11_85 dX11_write_7 (rl_ns h rs hs5) (fx_ta hx) rfl (by decide) rfl rfl (Nat.le_of_ble_eq_true rfl) ?_
    dsimp only [Option.toList, List.cons_append, List.nil_append]
    refine x_astore (pc := 10) hC dX11_write_10 (Nat.le_of_ble_eq_true rfl) ?_
    dsimp only [List.set]
    refine x_aload (pc := 12) hC dX11_write_12 rfl ?_
    refine x_ifnonnull (pc := 14) hC 19 dX11_write_14 (by decide) (fun _ h => by cases h) (fun _ => ?_)
    refine x_iconst (pc := 17) hC dX11_write_17 ?_
    refine x_iret (pc := 18) hC rfl dX11_write_18 ?_
    exact rl_px h 0

set_option maxHeartbeats 4000000 in
set_option maxRecDepth 100000 in
theorem c_number {G : ax_G} {T : Nat → Nat} {N : Nat → Int} {I : Nat → Int → Int} {R : Nat → Int → Option Nat} {z a o : Nat} {σ : Nat → Int → Int} {A w : Int → Nat} (h : RelA G T N I R z a o σ A w) (hI : miC σ o) (hMS : miS σ o) {s i : Int} (rs : ax_r s) (ri : ax_r i) : axM G YX11_number 2 [vR a, vI s, vI i] T N I R z 0 0 (rPX G T N I R z a o (vL (nu σ o s i).1) (nu σ o s i).2) := by
  refine ax_enter (by decide) (Nat.le_of_ble_eq_true rfl) (ax_cat rfl) (fun f hC => ?_)
  show axX G f 0 0 _ 0 [vR a, vI s, vI i, vU] [] T N I R z 0 0
  have hx := rl_fx h
  have b1 := fx_b1 hx
  unfold nu
  by_cases hs5 : 0 ≤ s ∧ s < 5
  · obtain ⟨n, rfl⟩ : ∃ n : Nat, s = n := ⟨s.toNat, by omega⟩
    have hn : n < 5 := by omega
    have hem := rl_em h hn
    obtain ⟨k1, k2, k3, k4, k5⟩ := rl_sl h n hn
    rw [if_pos hs5]
    have har := an_r σ o n i
    refine x_aload_n (pc := 0) hC dX11_number_0 rfl ?_
    refine x_iconst (pc := 1) hC dX11_number_1 ?_
    refine x_putI (pc := 2) hC pf_X11_77 dX11_number_2 (fx_ta hx) (by decide) ?_
    refine x_aload_n (pc := 5) hC dX11_number_5 rfl ?_
    refine x_iload_n (pc := 6) hC dX11_number_6 rfl ?_
    refine x_mV (pc := 7) hC cv_X11_85 dX11_number_7 (rl_sa h hn) (fx_ta hx) rfl (by decide) rfl rfl (Nat.le_of_ble_eq_true rfl) ?_
    dsimp only [Option.toList, List.cons_append, List.nil_append]
    refine x_astore_n (pc := 10) hC dX11_number_10 (Nat.le_of_ble_eq_true rfl) ?_
    dsimp only [List.set]
    refine x_aload_n (pc := 11) hC dX11_number_11 rfl ?_
    refine x_ifnonnull (pc := 12) hC 19 dX11_number_12 (by decide) (fun _ _ => ?_) (fun h => by cases h)
    refine x_aload_n (pc := 19) hC dX11_number_19 rfl ?_
    refine x_aload_n (pc := 20) hC dX11_number_20 rfl ?_
    refine x_iload_n (pc := 21) hC dX11_number_21 rfl ?_
    refine x_mV (pc := 22) hC cv_X11_334 dX11_number_22 (c_faultAtElement (fx_ss hx n hn).2 ri (fun r hr => (rl_ar h hMS hn r hr).1)) (fx_ss hx n hn).2 rfl (by decide) rfl rfl (Nat.le_of_ble_eq_true rfl) ?_
    dsimp only [Option.toList, List.cons_append, List.nil_append]
    rw [rl_fe h hn i]
    refine x_putI (pc := 25) hC pf_X11_77 dX11_number_25 (fx_ta hx) (by decide) ?_
    refine x_aload_n (pc := 28) hC dX11_number_28 rfl ?_
    refine x_getI (pc := 29) hC gf_X11_77 dX11_number_29 (fx_ta hx) ?_
    rw [axu_s]
    refine x_if_ne (pc := 32) hC 45 dX11_number_32 (by decide) (by omega) (fun b32 => ?_) (fun b32 => ?_)
    · refine x_ldc2 (pc := 45) hC lc_X11_340 dX11_number_45 ?_
      refine x_lret (pc := 48) hC rfl dX11_number_48 ?_
      rw [if_neg (by assumption), axu_uu, axu_uu]
      exact rl_px h _
    · have han : anR σ o n i = 0 := by assumption
      rw [if_pos han, han, axu_uu, axu_uu]
      rw [← rl_fe h hn i] at han
      obtain ⟨u, hu, i0, i1⟩ := fe0 han
      obtain ⟨⟨t1, t2, t3⟩, ⟨t4, t5, t6, t7, t8⟩, t9⟩ := rl_ar h hMS hn u hu
      have eu : ax_u I a 11 0 u i = σ (o + 33) (24 * (n : Int) + i) := by rw [axu_a (by omega)]; exact t9 i i0 i1
      refine x_aload_n (pc := 35) hC dX11_number_35 rfl ?_
      refine x_getO (pc := 36) hC gf_X11_108 dX11_number_36 (fx_ss hx n hn).2 hu ?_
      refine x_iload_n (pc := 39) hC dX11_number_39 rfl ?_
      refine x_iald (pc := 40) hC dX11_number_40 t1 (by omega) (by omega) ?_
      rw [eu]
      refine x_i2l (pc := 41) hC dX11_number_41 (hMS.2.2.1 _) ?_
      refine x_goto (pc := 42) hC 48 dX11_number_42 (by decide) ?_
      refine x_lret (pc := 48) hC rfl dX11_number_48 ?_
      exact rl_px h 0
  · rw [if_neg hs5]
    refine x_aload_n (pc := 0) hC dX11_number_0 rfl ?_
    refine x_iconst (pc := 1) hC dX11_number_1 ?_
    refine x_putI (pc := 2) hC pf_X11_77 dX11_number_2 (fx_ta hx) (by decide) ?_
    refine x_aload_n (pc := 5) hC dX11_number_5 rfl ?_
    refine x_iload_n (pc := 6) hC dX11_number_6 rfl ?_
    refine x_mV (pc := 7) hC cv_X11_85 dX11_number_7 (rl_ns h rs hs5) (fx_ta hx) rfl (by decide) rfl rfl (Nat.le_of_ble_eq_true rfl) ?_
    dsimp only [Option.toList, List.cons_append, List.nil_append]
    refine x_astore_n (pc := 10) hC dX11_number_10 (Nat.le_of_ble_eq_true rfl) ?_
    dsimp only [List.set]
    refine x_aload_n (pc := 11) hC dX11_number_11 rfl ?_
    refine x_ifnonnull (pc := 12) hC 19 dX11_number_12 (by decide) (fun _ h => by cases h) (fun _ => ?_)
    refine x_ldc2 (pc := 15) hC lc_X11_340 dX11_number_15 ?_
    refine x_lret (pc := 18) hC rfl dX11_number_18 ?_
    exact rl_px h 0

set_option maxHeartbeats 4000000 in
set_option maxRecDepth 100000 in
theorem c_tell {G : ax_G} {T : Nat → Nat} {N : Nat → Int} {I : Nat → Int → Int} {R : Nat → Int → Option Nat} {z a o : Nat} {σ : Nat → Int → Int} {A w : Int → Nat} (h : RelA G T N I R z a o σ A w) (hI : miC σ o) {c : Int} (rc : ax_r c) : axM G YX11_tell 3 [vR a, vI c] T N I R z 0 0 (rPX G T N I R z a o (vI (te σ o c).1) (te σ o c).2) := by
  refine ax_enter (by decide) (Nat.le_of_ble_eq_true rfl) (ax_cat rfl) (fun f hC => ?_)
  show axX G f 0 0 _ 0 [vR a, vI c, vU] [] T N I R z 0 0
  have hx := rl_fx h
  have b1 := fx_b1 hx
  unfold te
  by_cases hc : 0 ≤ c ∧ c < σ o 2
  · rw [if_pos hc]
    obtain ⟨c1, c2, c3, c4, c5⟩ := (rl_cs h).2 c hc.1 hc.2
    obtain ⟨g1, g2, g3, -, -, ⟨g5, g6⟩, g7, g8⟩ := rl_cc h c hc.1 hc.2
    refine x_aload_n (pc := 0) hC dX11_tell_0 rfl ?_
    refine x_iload_n (pc := 1) hC dX11_tell_1 rfl ?_
    refine x_mV (pc := 2) hC cv_X11_123 dX11_tell_2 (rl_at h hI hc) (fx_ta hx) rfl (by decide) rfl rfl (Nat.le_of_ble_eq_true rfl) ?_
    dsimp only [Option.toList, List.cons_append, List.nil_append]
    refine x_astore_n (pc := 5) hC dX11_tell_5 (Nat.le_of_ble_eq_true rfl) ?_
    dsimp only [List.set]
    refine x_aload_n (pc := 6) hC dX11_tell_6 rfl ?_
    refine x_ifnonnull (pc := 7) hC 14 dX11_tell_7 (by decide) (fun _ _ => ?_) (fun h => by cases h)
    refine x_aload_n (pc := 14) hC dX11_tell_14 rfl ?_
    refine x_speak (pc := 15) hC c1 g3 (fx_tr hx).2 c4 c5.1 dX11_tell_15 (by decide) rfl (Nat.le_of_ble_eq_true rfl) ?_
    refine x_iret (pc := 18) hC rfl dX11_tell_18 ?_
    rw [g2, g5, rl_t h]
    refine ⟨rfl, fun q hq => ⟨rfl, rfl, axu_row (by omega), rfl⟩, Nat.le_refl _, A, w, ?_⟩
    have hrs := rl_rs h
    refine rl_gen h (fun q h1 h2 h3 => axu_row h2) (fun j hj => by rw [axu_a (by omega)]) (by rw [axu_a (by omega), axu_j (by decide)]; exact rl_f h) (by rw [axu_s, axu_s]) (fun _ _ _ => rfl) (fun k h0 h1 h3 => axu_j h1) (fun q h1 h2 h3 => axu_row h1) (fun b h0 h1 => by rw [axu_row (by omega)]; exact rl_tp h b h0 h1) ?_ (rl_r7 h).1 (fun _ => by unfold thR; rw [axu_row (by omega), axu_row (by omega), axu_j (by decide), axu_j (by decide)])
    have e : ∀ v, rsL (ax_u σ o 1 v) o = rsL σ o := fun v => rsL_eq (axu_j (by decide)) (axu_row (by omega)) (axu_row (by omega)) (axu_row (by omega)) (axu_row (by omega))
    rw [e, axu_row (by omega)]
    exact hrs
  · rw [if_neg hc]
    refine x_aload_n (pc := 0) hC dX11_tell_0 rfl ?_
    refine x_iload_n (pc := 1) hC dX11_tell_1 rfl ?_
    refine x_mV (pc := 2) hC cv_X11_123 dX11_tell_2 (rl_no h hI rc hc) (fx_ta hx) rfl (by decide) rfl rfl (Nat.le_of_ble_eq_true rfl) ?_
    dsimp only [Option.toList, List.cons_append, List.nil_append]
    refine x_astore_n (pc := 5) hC dX11_tell_5 (Nat.le_of_ble_eq_true rfl) ?_
    dsimp only [List.set]
    refine x_aload_n (pc := 6) hC dX11_tell_6 rfl ?_
    refine x_ifnonnull (pc := 7) hC 14 dX11_tell_7 (by decide) (fun _ h => by cases h) (fun _ => ?_)
    refine x_iconst (pc := 10) hC dX11_tell_10 ?_
    refine x_goto (pc := 11) hC 18 dX11_tell_11 (by decide) ?_
    refine x_iret (pc := 18) hC rfl dX11_tell_18 ?_
    exact rl_p0 h

set_option maxHeartbeats 4000000 in
set_option maxRecDepth 100000 in
theorem c_point {G : ax_G} {T : Nat → Nat} {N : Nat → Int} {I : Nat → Int → Int} {R : Nat → Int → Option Nat} {z a o : Nat} {σ : Nat → Int → Int} {A w : Int → Nat} (h : RelA G T N I R z a o σ A w) (hI : miC σ o) (hS : rpS σ o) {b c : Int} (rb : ax_r b) (rc : ax_r c) : axM G YX11_point 1 [vR a, vI b, vI c] T N I R z 0 0 (rPX G T N I R z a o (vI (ptR σ o b c)) (ptI σ o b c)) := by
  refine ax_enter (by decide) (Nat.le_of_ble_eq_true rfl) (ax_cat rfl) (fun f hC => ?_)
  show axX G f 0 0 _ 0 [vR a, vI b, vI c, vU, vU] [] T N I R z 0 0
  have hx := rl_fx h
  have b1 := fx_b1 hx
  have hn9 := rl_n h
  have hC1 := hI.1
  have h8 := rl_st h
  have hs2 := hS.1
  have hu := c_isUnderWay (G := G) (I := I) hx (by rw [h8]; constructor <;> omega)
  unfold ptR ptI
  by_cases hb : 0 ≤ b ∧ b < 4
  · have ht := hI.2.2.2.2.1 b hb.1 hb.2
    obtain ⟨t1, t2, -⟩ := (rl_cs h).2 _ ht.1 ht.2
    by_cases hc : 0 ≤ c ∧ c < σ o 2
    · obtain ⟨c1, c2, -⟩ := (rl_cs h).2 c hc.1 hc.2
      rw [if_pos ⟨hb, hc⟩]
      by_cases h40 : σ o 40 = 0
      · rw [bI_f (show ¬ (I (a + 183) 8 ≠ 0) by rw [h8, h40]; decide)] at hu
        rw [if_pos h40, if_pos ⟨⟨hb, hc⟩, h40⟩]
        refine x_aload_n (pc := 0) hC dX11_point_0 rfl ?_
        refine x_iload_n (pc := 1) hC dX11_point_1 rfl ?_
        refine x_mV (pc := 2) hC cv_X11_81 dX11_point_2 (rl_tip h hb) (fx_ta hx) rfl (by decide) rfl rfl (Nat.le_of_ble_eq_true rfl) ?_
        dsimp only [Option.toList, List.cons_append, List.nil_append]
        refine x_astore_n (pc := 5) hC dX11_point_5 (Nat.le_of_ble_eq_true rfl) ?_
        dsimp only [List.set]
        refine x_aload_n (pc := 6) hC dX11_point_6 rfl ?_
        refine x_iload_n (pc := 7) hC dX11_point_7 rfl ?_
        refine x_mV (pc := 8) hC cv_X11_123 dX11_point_8 (rl_at h hI hc) (fx_ta hx) rfl (by decide) rfl rfl (Nat.le_of_ble_eq_true rfl) ?_
        dsimp only [Option.toList, List.cons_append, List.nil_append]
        refine x_astore (pc := 11) hC dX11_point_11 (Nat.le_of_ble_eq_true rfl) ?_
        dsimp only [List.set]
        refine x_aload_n (pc := 13) hC dX11_point_13 rfl ?_
        refine x_ifnull (pc := 14) hC 22 dX11_point_14 (by decide) (fun h => by cases h) (fun _ _ => ?_)
        refine x_aload (pc := 17) hC dX11_point_17 rfl ?_
        refine x_ifnonnull (pc := 19) hC 24 dX11_point_19 (by decide) (fun _ _ => ?_) (fun h => by cases h)
        refine x_aload_n (pc := 24) hC dX11_point_24 rfl ?_
        refine x_mV (pc := 25) hC cv_X11_89 dX11_point_25 hu (fx_ta hx) rfl (by decide) rfl rfl (Nat.le_of_ble_eq_true rfl) ?_
        dsimp only [Option.toList, List.cons_append, List.nil_append]
        refine x_if_eq (pc := 28) hC 34 dX11_point_28 (by decide) (by decide) (fun _ => ?_) (fun h => absurd rfl h)
        refine x_aload_n (pc := 34) hC dX11_point_34 rfl ?_
        refine x_getO (pc := 35) hC gf_X11_24 dX11_point_35 (fx_ta hx) (fx_tp hx).1 ?_
        refine x_iload_n (pc := 38) hC dX11_point_38 rfl ?_
        refine x_aload (pc := 39) hC dX11_point_39 rfl ?_
        refine x_aast (pc := 41) hC axEl_15 dX11_point_41 (fx_tp hx).2.1 (by omega) (by rw [(fx_tp hx).2.2]; omega) (fun v hv => by cases hv; exact axTakes_5 c1) ?_
        refine x_aload_n (pc := 42) hC dX11_point_42 rfl ?_
        refine x_getI (pc := 43) hC (gp_X11_120 t1) dX11_point_43 rfl ?_
        refine x_iret (pc := 46) hC rfl dX11_point_46 ?_
        rw [t2]
        refine ⟨rfl, fun q hq => ⟨rfl, rfl, rfl, axu_row (by omega)⟩, Nat.le_refl _, A, w, ?_⟩
        refine rl_gen h (fun _ _ _ _ => rfl) (fun _ _ => rfl) (by rw [axu_a (by omega)]; exact rl_f h) (by rw [axu_a (by omega)]; exact rl_t h) (fun q h1 h2 => axu_row h1) (fun k h0 h1 h3 => axu_a (by omega)) (fun q h1 h2 h3 => axu_row h2) (fun d h0 h1 => ?_) ?_ (fun j v a1 a2 hv => by rw [axu_row (by omega)] at hv; exact (rl_r7 h).1 j v a1 a2 hv) (fun h9 => absurd h40 h9)
        · by_cases e : d = b
          · rw [e, axu_s, axu_s]
          · rw [axu_j e, axu_j e]; exact rl_tp h d h0 h1
        · have e : rsL (ax_u σ (o + 7) b c) o = rsL σ o := rsL_eq (axu_a (by omega)) (axu_row (by omega)) (axu_row (by omega)) (axu_row (by omega)) (axu_row (by omega))
          rw [e]
          refine ⟨(rl_rs h).1, (rl_rs h).2.1, fun k p hp => ?_⟩
          rw [axu_row (by omega)]
          exact (rl_rs h).2.2 k p hp
      · rw [bI_t (show I (a + 183) 8 ≠ 0 by rw [h8]; exact h40)] at hu
        rw [if_neg h40, if_neg (fun h9 => h40 h9.2)]
        refine x_aload_n (pc := 0) hC dX11_point_0 rfl ?_
        refine x_iload_n (pc := 1) hC dX11_point_1 rfl ?_
        refine x_mV (pc := 2) hC cv_X11_81 dX11_point_2 (rl_tip h hb) (fx_ta hx) rfl (by decide) rfl rfl (Nat.le_of_ble_eq_true rfl) ?_
        dsimp only [Option.toList, List.cons_append, List.nil_append]
        refine x_astore_n (pc := 5) hC dX11_point_5 (Nat.le_of_ble_eq_true rfl) ?_
        dsimp only [List.set]
        refine x_aload_n (pc := 6) hC dX11_point_6 rfl ?_
        refine x_iload_n (pc := 7) hC dX11_point_7 rfl ?_
        refine x_mV (pc := 8) hC cv_X11_123 dX11_point_8 (rl_at h hI hc) (fx_ta hx) rfl (by decide) rfl rfl (Nat.le_of_ble_eq_true rfl) ?_
        dsimp only [Option.toList, List.cons_append, List.nil_append]
        refine x_astore (pc := 11) hC dX11_point_11 (Nat.le_of_ble_eq_true rfl) ?_
        dsimp only [List.set]
        refine x_aload_n (pc := 13) hC dX11_point_13 rfl ?_
        refine x_ifnull (pc := 14) hC 22 dX11_point_14 (by decide) (fun h => by cases h) (fun _ _ => ?_)
        refine x_aload (pc := 17) hC dX11_point_17 rfl ?_
        refine x_ifnonnull (pc := 19) hC 24 dX11_point_19 (by decide) (fun _ _ => ?_) (fun h => by cases h)
        refine x_aload_n (pc := 24) hC dX11_point_24 rfl ?_
        refine x_mV (pc := 25) hC cv_X11_89 dX11_point_25 hu (fx_ta hx) rfl (by decide) rfl rfl (Nat.le_of_ble_eq_true rfl) ?_
        dsimp only [Option.toList, List.cons_append, List.nil_append]
        refine x_if_eq (pc := 28) hC 34 dX11_point_28 (by decide) (by decide) (fun h => absurd h (by decide)) (fun _ => ?_)
        refine x_bipush (pc := 31) hC dX11_point_31 (by decide) ?_
        refine x_iret (pc := 33) hC rfl dX11_point_33 ?_
        exact rl_p0 h
    · rw [if_neg (fun h9 => hc h9.2), if_neg (fun h9 => hc h9.1.2)]
      refine x_aload_n (pc := 0) hC dX11_point_0 rfl ?_
      refine x_iload_n (pc := 1) hC dX11_point_1 rfl ?_
      refine x_mV (pc := 2) hC cv_X11_81 dX11_point_2 (rl_tip h hb) (fx_ta hx) rfl (by decide) rfl rfl (Nat.le_of_ble_eq_true rfl) ?_
      dsimp only [Option.toList, List.cons_append, List.nil_append]
      refine x_astore_n (pc := 5) hC dX11_point_5 (Nat.le_of_ble_eq_true rfl) ?_
      dsimp only [List.set]
      refine x_aload_n (pc := 6) hC dX11_point_6 rfl ?_
      refine x_iload_n (pc := 7) hC dX11_point_7 rfl ?_
      refine x_mV (pc := 8) hC cv_X11_123 dX11_point_8 (rl_no h hI rc hc) (fx_ta hx) rfl (by decide) rfl rfl (Nat.le_of_ble_eq_true rfl) ?_
      dsimp only [Option.toList, List.cons_append, List.nil_append]
      refine x_astore (pc := 11) hC dX11_point_11 (Nat.le_of_ble_eq_true rfl) ?_
      dsimp only [List.set]
      refine x_aload_n (pc := 13) hC dX11_point_13 rfl ?_
      refine x_ifnull (pc := 14) hC 22 dX11_point_14 (by decide) (fun h => by cases h) (fun _ _ => ?_)
      refine x_aload (pc := 17) hC dX11_point_17 rfl ?_
      refine x_ifnonnull (pc := 19) hC 24 dX11_point_19 (by decide) (fun _ h => by cases h) (fun _ => ?_)
      refine x_iconst (pc := 22) hC dX11_point_22 ?_
      refine x_iret (pc := 23) hC rfl dX11_point_23 ?_
      exact rl_p0 h
  · rw [if_neg (fun h9 => hb h9.1), if_neg (fun h9 => hb h9.1.1)]
    refine x_aload_n (pc := 0) hC dX11_point_0 rfl ?_
    refine x_iload_n (pc := 1) hC dX11_point_1 rfl ?_
    refine x_mV (pc := 2) hC cv_X11_81 dX11_point_2 (rl_nt h rb hb) (fx_ta hx) rfl (by decide) rfl rfl (Nat.le_of_ble_eq_true rfl) ?_
    dsimp only [Option.toList, List.cons_append, List.nil_append]
    refine x_astore_n (pc := 5) hC dX11_point_5 (Nat.le_of_ble_eq_true rfl) ?_
    dsimp only [List.set]
    refine x_aload_n (pc := 6) hC dX11_point_6 rfl ?_
    refine x_iload_n (pc := 7) hC dX11_point_7 rfl ?_
    refine x_mV (pc := 8) hC cv_X11_123 dX11_point_8 (c_commitAt hx (c := c) rc (by omega)) (fx_ta hx) rfl (by decide) rfl rfl (Nat.le_of_ble_eq_true rfl) ?_
    dsimp only [Option.toList, List.cons_append, List.nil_append]
    refine x_astore (pc := 11) hC dX11_point_11 (Nat.le_of_ble_eq_true rfl) ?_
    dsimp only [List.set]
    refine x_aload_n (pc := 13) hC dX11_point_13 rfl ?_
    refine x_ifnull (pc := 14) hC 22 dX11_point_14 (by decide) (fun _ => ?_) (fun _ h => by cases h)
    refine x_iconst (pc := 22) hC dX11_point_22 ?_
    refine x_iret (pc := 23) hC rfl dX11_point_23 ?_
    exact rl_p0 h

