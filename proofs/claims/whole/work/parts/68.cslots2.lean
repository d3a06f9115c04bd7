/-! THE CLASS: slots, 4 -/
theorem pth_len {p : Int → Int} : ∀ (n : Nat) (x : Int), (pth p n x).length ≤ n := by
  intro n
  induction n with
  | zero => intro x; simp [pth]
  | succ n ih =>
    intro x
    simp only [pth]
    split
    · simp
    · have := ih (p x)
      simp only [List.length_cons]; omega
theorem path_len {σ : Nat → Int → Int} {o : Nat} (h : miC σ o) {c : Int} (hc : 0 ≤ c ∧ c < σ o 2) : (path (σ (o + 2)) c).length ≤ 24 := by
  have := pth_len (p := σ (o + 2)) (c.toNat + 1) c
  have h1 := h.1
  unfold path
  omega
theorem rl_arr {G : ax_G} {T : Nat → Nat} {N : Nat → Int} {I : Nat → Int → Int} {R : Nat → Int → Option Nat} {z a o : Nat} {σ : Nat → Int → Int} {A w : Int → Nat} (h : RelA G T N I R z a o σ A w) (hMS : miS σ o) {n : Nat} (hn : n < 5) {v k : Int} {row : Int → Int} {X I' : Nat → Int → Int} {b : Int} (hv : v = 0 ∨ v = 1) (hb : b = 1 - v) (hk : 0 ≤ k ∧ k ≤ 24) (hI' : ∀ q, q ≠ a → I' q = I q) (hIa : ∀ j, j ≠ 11 → I' a j = I a j) (hf : I' a 11 = X o 0) (x0 : ∀ j, j ≠ 0 → X o j = σ o j) (xq : ∀ q, q ≠ o → (q < o + 31 ∨ o + 33 < q) → X q = σ q) (xt : ∀ t : Int, t ≠ n → X (o + 31) t = σ (o + 31) t ∧ X (o + 32) t = σ (o + 32) t) (x1 : X (o + 31) n = v) (x2 : X (o + 32) n = k) (x3 : ∀ j, j < 24 * (n : Int) ∨ 24 * (n : Int) + 24 ≤ j → X (o + 33) j = σ (o + 33) j) (xs : seg row 0 k = slL X o n) : RelA G (ax_n T z 13) (ax_n N z k) (ax_u (ax_n I' z row) (a + 177 + n) 1 b) (ax_u (ax_u (ax_n R z (fun _ => none)) (a + 177 + n) 0 (some z)) (a + 177 + n) 2 none) (z + 1) a o X A w := by
  have hx := rl_fx h
  have b1 := fx_b1 hx
  have b2 := fx_b2 hx
  have tz0 := fx_tz hx
  have hS : a + 177 + n ≠ z := by omega
  refine rl_slot h hn (fun q hq => ⟨axn_a (by omega), axn_a (by omega)⟩) (by omega) (fun q hq => ?_) (fun q h1 h2 h3 _ => by rw [axu_row h3, axn_a (by omega), hI' q h2]) (fun j hj => by rw [axu_a (by omega), axn_a (by omega), hIa j hj]) (by rw [axu_a (by omega), axn_a (by omega)]; exact hf) (fun q h1 h2 => by rw [axu_row h2, axu_row h2, axn_a (by omega)]) x0 (fun q h1 h2 => xq q h1 (by omega)) (fun t ht hne => ?_) ?_ (fun u hu => ?_)
  · by_cases e : q = z
    · omega
    · rw [axn_a e] at hq
      have := tz0 q hq
      omega
  · have hne2 : (t : Int) ≠ n := by omega
    exact ⟨(xt t hne2).1, (xt t hne2).2, slL_o (s := (n : Int)) (xt t hne2).2 (hMS.2.1 t) hne2 x3, by rw [xq _ (by omega) (by omega)], by rw [xq _ (by omega) (by omega)], by rw [xq _ (by omega) (by omega)]⟩
  · unfold slK
    rw [x1, x2, axu_s, axu_j (by decide : (0 : Int) ≠ 2), axu_s, axu_s]
    refine ⟨by omega, by omega, fun h9 => by omega, fun h9 => ⟨rfl, hb, z, rfl, axn_s, axn_s, ?_, by omega⟩, fun h9 => by omega⟩
    rw [axu_row (by omega), axn_s]
    exact xs
  · rw [axu_j (by decide), axu_s] at hu
    cases hu
    exact Or.inl (Nat.le_refl _)
theorem fro_arr {T : Nat → Nat} {N : Nat → Int} {I I' : Nat → Int → Int} {R : Nat → Int → Option Nat} {a o z n : Nat} {k b : Int} {row : Int → Int} (h1 : a + 197 ≤ o) (h2 : o + 37 ≤ z) (hn : n < 5) (hI' : ∀ q, q ≠ a → I' q = I q) : fro a o T N I R (ax_n T z 13) (ax_n N z k) (ax_u (ax_n I' z row) (a + 177 + n) 1 b) (ax_u (ax_u (ax_n R z (fun _ => none)) (a + 177 + n) 0 (some z)) (a + 177 + n) 2 none) := fun q hq => ⟨axn_a (by omega), axn_a (by omega), by rw [axu_row (by omega), axn_a (by omega), hI' q (by omega)], by rw [axu_row (by omega), axu_row (by omega), axn_a (by omega)]⟩
theorem rl_fe {G : ax_G} {T : Nat → Nat} {N : Nat → Int} {I : Nat → Int → Int} {R : Nat → Int → Option Nat} {z a o : Nat} {σ : Nat → Int → Int} {A w : Int → Nat} (h : RelA G T N I R z a o σ A w) {n : Nat} (hn : n < 5) (i : Int) : feR N R (a + 177 + n) i = anR σ o n i := by
  obtain ⟨k1, k2, k3, k4, k5⟩ := rl_sl h n hn
  unfold feR anR
  rcases k2 with e | e | e | e
  · rw [(k3 e).1, (k3 e).2]
    dsimp only
    rw [if_pos rfl, if_neg (show ¬ σ (o + 31) n = 2 by omega), if_pos e]
  · obtain ⟨x1, x2, u, x3, x4, x5, -⟩ := k4 (Or.inl e)
    rw [x3]
    dsimp only
    rw [if_neg (show ¬ σ (o + 31) n = 2 by omega), if_neg (show ¬ σ (o + 31) n = -9 by omega), x5]
  · obtain ⟨x1, x2, u, x3, x4, x5, -⟩ := k4 (Or.inr e)
    rw [x3]
    dsimp only
    rw [if_neg (show ¬ σ (o + 31) n = 2 by omega), if_neg (show ¬ σ (o + 31) n = -9 by omega), x5]
  · obtain ⟨x1, q, x3, -⟩ := k5 e
    rw [x1, x3]
    dsimp only
    rw [if_pos e, if_neg (by simp)]
theorem rl_ar {G : ax_G} {T : Nat → Nat} {N : Nat → Int} {I : Nat → Int → Int} {R : Nat → Int → Option Nat} {z a o : Nat} {σ : Nat → Int → Int} {A w : Int → Nat} (h : RelA G T N I R z a o σ A w) (hMS : miS σ o) {n : Nat} (hn : n < 5) : ∀ r, R (a + 177 + n) 0 = some r → (T r = 13 ∧ 0 ≤ N r ∧ N r ≤ 100000) ∧ (o + 37 ≤ r ∧ N r = σ (o + 32) n ∧ (σ (o + 31) n = 0 ∨ σ (o + 31) n = 1) ∧ I (a + 177 + n) 1 = 1 - σ (o + 31) n ∧ R (a + 177 + n) 2 = none) ∧ ∀ j, 0 ≤ j → j < N r → I r j = σ (o + 33) (24 * (n : Int) + j) := fun r hr => by
  obtain ⟨k1, k2, k3, k4, k5⟩ := rl_sl h n hn
  have hb := hMS.2.1 n
  have key : σ (o + 31) n = 0 ∨ σ (o + 31) n = 1 → (T r = 13 ∧ 0 ≤ N r ∧ N r ≤ 100000) ∧ (o + 37 ≤ r ∧ N r = σ (o + 32) n ∧ (σ (o + 31) n = 0 ∨ σ (o + 31) n = 1) ∧ I (a + 177 + n) 1 = 1 - σ (o + 31) n ∧ R (a + 177 + n) 2 = none) ∧ ∀ j, 0 ≤ j → j < N r → I r j = σ (o + 33) (24 * (n : Int) + j) := fun e => by
    obtain ⟨x1, x2, u, x3, x4, x5, x6, x7⟩ := k4 e
    rw [x3] at hr
    cases hr
    refine ⟨⟨x4, by omega, by omega⟩, ⟨x7, x5, e, x2, x1⟩, fun j j0 j1 => ?_⟩
    unfold slL at x6
    have := ((seg_eq (by omega) (by omega)).mp x6).2 j j0 (by omega)
    rw [Int.zero_add] at this
    exact this
  rcases k2 with e | e | e | e
  · rw [(k3 e).1] at hr; cases hr
  · exact key (Or.inl e)
  · exact key (Or.inr e)
  · rw [(k5 e).1] at hr; cases hr
/-- numbers are written into a slot's own array -/
theorem rl_wr {G : ax_G} {T : Nat → Nat} {N : Nat → Int} {I : Nat → Int → Int} {R : Nat → Int → Option Nat} {z a o : Nat} {σ : Nat → Int → Int} {A w : Int → Nat} (h : RelA G T N I R z a o σ A w) (hMS : miS σ o) {n u : Nat} (hn : n < 5) (hu : R (a + 177 + n) 0 = some u) {X J : Nat → Int → Int} (hJ : ∀ q, q ≠ a → q ≠ u → J q = I q) (hJa : ∀ j, j ≠ 11 → J a j = I a j) (hf : J a 11 = X o 0) (x0 : ∀ j, j ≠ 0 → X o j = σ o j) (xq : ∀ q, q ≠ o → q ≠ o + 33 → X q = σ q) (x3 : ∀ j, j < 24 * (n : Int) ∨ 24 * (n : Int) + 24 ≤ j → X (o + 33) j = σ (o + 33) j) (xs : ∀ j, 0 ≤ j → j < N u → J u j = X (o + 33) (24 * (n : Int) + j)) : RelA G T N J R z a o X A w := by
  have hx := rl_fx h
  have b1 := fx_b1 hx
  obtain ⟨⟨t1, t2, t3⟩, ⟨t4, t5, t6, t7, t8⟩, t9⟩ := rl_ar h hMS hn u hu
  refine rl_slot h hn (fun _ _ => ⟨rfl, rfl⟩) (Nat.le_refl _) (fx_tz hx) (fun q h1 h2 h3 h4 => hJ q h2 (fun e => h4 (by rw [e]; exact hu))) hJa hf (fun _ _ _ => rfl) x0 (fun q h1 h2 => xq q h1 (by omega)) (fun t ht hne => ?_) ?_ (fun u hu => Or.inr hu)
  · have hne2 : (t : Int) ≠ n := by omega
    rw [xq (o + 31) (by omega) (by omega), xq (o + 32) (by omega) (by omega), xq (o + 34) (by omega) (by omega), xq (o + 35) (by omega) (by omega), xq (o + 36) (by omega) (by omega)]
    exact ⟨rfl, rfl, slL_o (s := (n : Int)) (by rw [xq (o + 32) (by omega) (by omega)]) (hMS.2.1 t) hne2 x3, rfl, rfl, rfl⟩
  · unfold slK
    have e1 : J (a + 177 + n) = I (a + 177 + n) := hJ _ (by omega) (by omega)
    rw [e1, xq (o + 31) (by omega) (by omega), xq (o + 32) (by omega) (by omega), hu, t8]
    refine ⟨by omega, by omega, fun h9 => by omega, fun _ => ⟨rfl, t7, u, rfl, t1, t5, ?_, t4⟩, fun h9 => by omega⟩
    unfold slL
    rw [xq (o + 32) (by omega) (by omega)]
    exact (seg_eq (by omega) (by omega)).mpr ⟨by omega, fun j j0 j1 => by rw [Int.zero_add]; exact xs j j0 (by omega)⟩

set_option maxHeartbeats 4000000 in
set_option maxRecDepth 100000 in
theorem c_blank {G : ax_G} {T : Nat → Nat} {N : Nat → Int} {I : Nat → Int → Int} {R : Nat → Int → Option Nat} {z a o : Nat} {σ : Nat → Int → Int} {A w : Int → Nat} (h : RelA G T N I R z a o σ A w) (hI : miC σ o) (hMS : miS σ o) {s : Int} (rs : ax_r s) {v : Int} (rv : ax_r v) {k : Int} (rk : ax_r k) : axM G YX11_blank 1 [vR a, vI s, vI v, vI k] T N I R z 1 24 (rPX G T N I R z a o (vI (bl σ o s v k).1) (bl σ o s v k).2) := by
  refine ax_enter (by decide) (Nat.le_of_ble_eq_true rfl) (ax_cat rfl) (fun f hC => ?_)
  show axX G f 1 24 _ 0 [vR a, vI s, vI v, vI k, vU] [] T N I R z 1 24
  have hx := rl_fx h
  have b1 := fx_b1 hx
  unfold bl
  by_cases hs5 : 0 ≤ s ∧ s < 5
  · obtain ⟨n, rfl⟩ : ∃ n : Nat, s = n := ⟨s.toNat, by omega⟩
    have hn : n < 5 := by omega
    have hem := rl_em h hn
    obtain ⟨k1, k2, k3, k4, k5⟩ := rl_sl h n hn
    have b2 := fx_b2 hx
    rw [if_pos hs5]
    refine x_aload_n (pc := 0) hC dX11_blank_0 rfl ?_
    refine x_iconst (pc := 1) hC dX11_blank_1 ?_
    refine x_putI (pc := 2) hC pf_X11_77 dX11_blank_2 (fx_ta hx) (by decide) ?_
    refine x_aload_n (pc := 5) hC dX11_blank_5 rfl ?_
    refine x_iload_n (pc := 6) hC dX11_blank_6 rfl ?_
    refine x_mV (pc := 7) hC cv_X11_85 dX11_blank_7 (rl_sa h hn) (fx_ta hx) rfl (by decide) rfl rfl (Nat.le_of_ble_eq_true rfl) ?_
    dsimp only [Option.toList, List.cons_append, List.nil_append]
    refine x_astore (pc := 10) hC dX11_blank_10 (Nat.le_of_ble_eq_true rfl) ?_
    dsimp only [List.set]
    refine x_aload (pc := 12) hC dX11_blank_12 rfl ?_
    refine x_ifnonnull (pc := 14) hC 19 dX11_blank_14 (by decide) (fun _ _ => ?_) (fun h => by cases h)
    refine x_iload_n (pc := 19) hC dX11_blank_19 rfl ?_
    refine x_if_lt (pc := 20) hC 34 dX11_blank_20 (by decide) (by omega) (fun b20 => ?_) (fun b20 => ?_)
    · refine x_bipush (pc := 34) hC dX11_blank_34 (by decide) ?_
      refine x_iret (pc := 36) hC rfl dX11_blank_36 ?_
      rw [if_neg (by omega)]
      exact rl_px h 0
    · refine x_iload_n (pc := 23) hC dX11_blank_23 rfl ?_
      refine x_iconst (pc := 24) hC dX11_blank_24 ?_
      refine x_icmp_gt (pc := 25) hC 34 dX11_blank_25 (by decide) (by omega) (by omega) (fun b25 => ?_) (fun b25 => ?_)
      · refine x_bipush (pc := 34) hC dX11_blank_34 (by decide) ?_
        refine x_iret (pc := 36) hC rfl dX11_blank_36 ?_
        rw [if_neg (by omega)]
        exact rl_px h 0
      · refine x_iload_n (pc := 28) hC dX11_blank_28 rfl ?_
        refine x_bipush (pc := 29) hC dX11_blank_29 (by decide) ?_
        refine x_icmp_le (pc := 31) hC 37 dX11_blank_31 (by decide) (by omega) (by omega) (fun b31 => ?_) (fun b31 => ?_)
        · refine x_iload_n (pc := 37) hC dX11_blank_37 rfl ?_
          refine x_if_ge (pc := 38) hC 47 dX11_blank_38 (by decide) (by omega) (fun b38 => ?_) (fun b38 => ?_)
          · rw [if_pos (by omega), if_pos (by omega)]
            have hS9 : ax_n T z 13 (a + 177 + n) = 9 := by rw [axn_a (by omega)]; exact (fx_ss hx n hn).2
            refine x_aload (pc := 47) hC dX11_blank_47 rfl ?_
            refine x_iload_n (pc := 49) hC dX11_blank_49 rfl ?_
            refine x_newi (pc := 50) hC w_arrI dX11_blank_50 (by omega) (by omega) (by omega) (by omega) ?_
            refine x_iload_n (pc := 52) hC dX11_blank_52 rfl ?_
            refine x_if_ne (pc := 53) hC 60 dX11_blank_53 (by decide) (by omega) (fun b53 => ?_) (fun b53 => ?_)
            · refine x_iconst (pc := 60) hC dX11_blank_60 ?_
              refine x_rV (pc := 61) hC cv_X11_311 dX11_blank_61 (c_putArray (x := some z) (b := 0) hS9 (Or.inl rfl)) hS9 rfl (by decide) rfl rfl (Nat.le_of_ble_eq_true rfl) ?_
              rintro v9 I5 S5 ⟨rfl, rfl, rfl⟩
              dsimp only [Option.toList, List.nil_append]
              refine x_iconst (pc := 64) hC dX11_blank_64 ?_
              refine x_iret (pc := 65) hC rfl dX11_blank_65 ?_
              obtain ⟨y1, y2, y3, y4, y5, y6, y7⟩ := cl_o (σ := σ) (o := o) (s := (n : Int)) (t := v) (n := k)
              refine ⟨rfl, fro_arr b1 b2 hn (fun q hq => axu_row hq), by omega, A, w, ?_⟩
              refine rl_arr h hMS hn (v := v) (by omega) (by omega) (by omega) (fun q hq => axu_row hq) (fun j hj => axu_j hj) (by rw [axu_s, axu_s]) (fun j hj => by rw [axu_j hj, y1]) (fun q h1 h2 => by rw [axu_row h1, y2 q (by omega)]) (fun t ht => by rw [axu_a (by omega), axu_a (by omega)]; exact y3 t ht) (by rw [axu_a (by omega), y4]) (by rw [axu_a (by omega), y5]) (fun j hj => by rw [axu_a (by omega), y6 j hj]) ?_
              unfold slL
              rw [axu_row (by omega), axu_a (by omega), y5]
              exact (seg_eq (by omega) (by omega)).mpr ⟨by omega, fun j j0 j1 => by rw [y7 _ (by omega) (by omega)]⟩
            · refine x_iconst (pc := 56) hC dX11_blank_56 ?_
              refine x_goto (pc := 57) hC 61 dX11_blank_57 (by decide) ?_
              refine x_rV (pc := 61) hC cv_X11_311 dX11_blank_61 (c_putArray (x := some z) (b := 1) hS9 (Or.inr rfl)) hS9 rfl (by decide) rfl rfl (Nat.le_of_ble_eq_true rfl) ?_
              rintro v9 I5 S5 ⟨rfl, rfl, rfl⟩
              dsimp only [Option.toList, List.nil_append]
              refine x_iconst (pc := 64) hC dX11_blank_64 ?_
              refine x_iret (pc := 65) hC rfl dX11_blank_65 ?_
              obtain ⟨y1, y2, y3, y4, y5, y6, y7⟩ := cl_o (σ := σ) (o := o) (s := (n : Int)) (t := v) (n := k)
              refine ⟨rfl, fro_arr b1 b2 hn (fun q hq => axu_row hq), by omega, A, w, ?_⟩
              refine rl_arr h hMS hn (v := v) (by omega) (by omega) (by omega) (fun q hq => axu_row hq) (fun j hj => axu_j hj) (by rw [axu_s, axu_s]) (fun j hj => by rw [axu_j hj, y1]) (fun q h1 h2 => by rw [axu_row h1, y2 q (by omega)]) (fun t ht => by rw [axu_a (by omega), axu_a (by omega)]; exact y3 t ht) (by rw [axu_a (by omega), y4]) (by rw [axu_a (by omega), y5]) (fun j hj => by rw [axu_a (by omega), y6 j hj]) ?_
              unfold slL
              rw [axu_row (by omega), axu_a (by omega), y5]
              exact (seg_eq (by omega) (by omega)).mpr ⟨by omega, fun j j0 j1 => by rw [y7 _ (by omega) (by omega)]⟩
          · refine x_aload_n (pc := 41) hC dX11_blank_41 rfl ?_
            refine x_iconst (pc := 42) hC dX11_blank_42 ?_
            refine x_mV (pc := 43) hC cv_X11_97 dX11_blank_43 (c_failBy hx) (fx_ta hx) rfl (by decide) rfl rfl (Nat.le_of_ble_eq_true rfl) ?_
            dsimp only [Option.toList, List.cons_append, List.nil_append]
            refine x_iret (pc := 46) hC rfl dX11_blank_46 ?_
            rw [if_pos (by omega), if_neg (by omega), axu_uu]
            exact rl_px h 4
        · refine x_bipush (pc := 34) hC dX11_blank_34 (by decide) ?_
          refine x_iret (pc := 36) hC rfl dX11_blank_36 ?_
          rw [if_neg (by omega)]
          exact rl_px h 0
  · rw [if_neg hs5]
    refine x_aload_n (pc := 0) hC dX11_blank_0 rfl ?_
    refine x_iconst (pc := 1) hC dX11_blank_1 ?_
    refine x_putI (pc := 2) hC pf_X11_77 dX11_blank_2 (fx_ta hx) (by decide) ?_
    refine x_aload_n (pc := 5) hC dX11_blank_5 rfl ?_
    refine x_iload_n (pc := 6) hC dX11_blank_6 rfl ?_
    refine x_mV (pc := 7) hC cv_X11_85 dX11_blank_7 (rl_ns h rs hs5) (fx_ta hx) rfl (by decide) rfl rfl (Nat.le_of_ble_eq_true rfl) ?_
    dsimp only [Option.toList, List.cons_append, List.nil_append]
    refine x_astore (pc := 10) hC dX11_blank_10 (Nat.le_of_ble_eq_true rfl) ?_
    dsimp only [List.set]
    refine x_aload (pc := 12) hC dX11_blank_12 rfl ?_
    refine x_ifnonnull (pc := 14) hC 19 dX11_blank_14 (by decide) (fun _ h => by cases h) (fun _ => ?_)
    refine x_iconst (pc := 17) hC dX11_blank_17 ?_
    refine x_iret (pc := 18) hC rfl dX11_blank_18 ?_
    exact rl_px h 0

set_option maxHeartbeats 4000000 in
set_option maxRecDepth 100000 in
theorem c_show {G : ax_G} {T : Nat → Nat} {N : Nat → Int} {I : Nat → Int → Int} {R : Nat → Int → Option Nat} {z a o : Nat} {σ : Nat → Int → Int} {A w : Int → Nat} (h : RelA G T N I R z a o σ A w) (hI : miC σ o) (hMS : miS σ o)  {s c : Int} (rs : ax_r s) (rc : ax_r c) : axM G YX11_show 1 [vR a, vI s, vI c] T N I R z 1 16 (rPX G T N I R z a o (vI (sh σ o s c).1) (sh σ o s c).2) := by
  refine ax_enter (by decide) (Nat.le_of_ble_eq_true rfl) (ax_cat rfl) (fun f hC => ?_)
  show axX G f 1 16 _ 0 [vR a, vI s, vI c, vU, vU] [] T N I R z 1 16
  have hx := rl_fx h
  have b1 := fx_b1 hx
  have b2 := fx_b2 hx
  have hn9 := rl_n h
  have hC1 := hI.1
  unfold sh
  by_cases hs5 : 0 ≤ s ∧ s < 5
  · obtain ⟨n, rfl⟩ : ∃ n : Nat, s = n := ⟨s.toNat, by omega⟩
    have hn : n < 5 := by omega
    have hem := rl_em h hn
    obtain ⟨k1, k2, k3, k4, k5⟩ := rl_sl h n hn
    by_cases hc : 0 ≤ c ∧ c < σ o 2
    · rw [if_pos ⟨hs5, hc⟩]
      obtain ⟨c1, c2, c3, c4, c5⟩ := (rl_cs h).2 c hc.1 hc.2
      obtain ⟨g1, g2, -, -, -, ⟨g5, g6⟩, g7, g8⟩ := rl_cc h c hc.1 hc.2
      have c52 := c5.2.1
      have wz : w c ≠ z ∧ A c ≠ z := by
        have e1 := fx_tz hx (w c) (by have := c5.1; omega)
        have e2 := fx_tz hx (A c) (by rcases c1 with e | e | e <;> omega)
        omega
      have hS9 : ax_n T z 13 (a + 177 + n) = 9 := by rw [axn_a (by omega)]; exact (fx_ss hx n hn).2
      have cA1 : pT (ax_n T z 13 (A c)) := by rw [axn_a wz.2]; exact c1
      refine x_aload_n (pc := 0) hC dX11_show_0 rfl ?_
      refine x_iload_n (pc := 1) hC dX11_show_1 rfl ?_
      refine x_mV (pc := 2) hC cv_X11_85 dX11_show_2 (rl_sa h hn) (fx_ta hx) rfl (by decide) rfl rfl (Nat.le_of_ble_eq_true rfl) ?_
      dsimp only [Option.toList, List.cons_append, List.nil_append]
      refine x_astore_n (pc := 5) hC dX11_show_5 (Nat.le_of_ble_eq_true rfl) ?_
      dsimp only [List.set]
      refine x_aload_n (pc := 6) hC dX11_show_6 rfl ?_
      refine x_iload_n (pc := 7) hC dX11_show_7 rfl ?_
      refine x_mV (pc := 8) hC cv_X11_123 dX11_show_8 (rl_at h hI hc) (fx_ta hx) rfl (by decide) rfl rfl (Nat.le_of_ble_eq_true rfl) ?_
      dsimp only [Option.toList, List.cons_append, List.nil_append]
      refine x_astore (pc := 11) hC dX11_show_11 (Nat.le_of_ble_eq_true rfl) ?_
      dsimp only [List.set]
      refine x_aload_n (pc := 13) hC dX11_show_13 rfl ?_
      refine x_ifnull (pc := 14) hC 22 dX11_show_14 (by decide) (fun h => by cases h) (fun _ _ => ?_)
      refine x_aload (pc := 17) hC dX11_show_17 rfl ?_
      refine x_ifnonnull (pc := 19) hC 24 dX11_show_19 (by decide) (fun _ _ => ?_) (fun h => by cases h)
      refine x_aload_n (pc := 24) hC dX11_show_24 rfl ?_
      refine x_aload (pc := 25) hC dX11_show_25 rfl ?_
      refine x_getO (pc := 27) hC (gp_X11_133 c1) dX11_show_27 rfl c4 ?_
      refine x_clone (pc := 30) hC cl_X11_111 w_clsame w_clnat w_clinst w_clsel n_clone dX11_show_30 c5.1 (by decide) rfl (Nat.le_of_ble_eq_true rfl) (by omega) (by omega) ?_
      refine x_castI (pc := 33) hC kl_X11_112 dX11_show_33 axn_s ?_
      refine x_iconst (pc := 36) hC dX11_show_36 ?_
      refine x_rV (pc := 37) hC cv_X11_311 dX11_show_37 (c_putArray (x := some z) (b := 1) hS9 (Or.inr rfl)) hS9 rfl (by decide) rfl rfl (Nat.le_of_ble_eq_true rfl) ?_
      rintro v9 I5 S5 ⟨rfl, rfl, rfl⟩
      dsimp only [Option.toList, List.nil_append]
      refine x_aload (pc := 40) hC dX11_show_40 rfl ?_
      refine x_getO (pc := 42) hC (gp_X11_133 cA1) dX11_show_42 rfl (Eq.trans (axu_a (by omega)) (Eq.trans (axu_a (by omega)) (Eq.trans (congrFun (axn_a wz.2) _) c4))) ?_
      refine x_alen (pc := 45) hC dX11_show_45 (by rw [(Eq.trans (axn_a wz.1) c5.1)]; decide) (by rw [(Eq.trans (axn_a wz.1) c5.1)]; decide) ?_
      refine x_iret (pc := 46) hC rfl dX11_show_46 ?_
      obtain ⟨y1, y2, y3, y4, y5, y6, y7⟩ := cl_o (σ := σ) (o := o) (s := (n : Int)) (t := 0) (n := (σ (o + 6) c))
      rw [axn_a wz.1, g5]
      refine ⟨rfl, fro_arr b1 b2 hn (fun _ _ => rfl), by omega, A, w, ?_⟩
      refine rl_arr h hMS hn (v := 0) (Or.inl rfl) rfl (by omega) (fun _ _ => rfl) (fun _ _ => rfl) (by rw [axf_a (by omega), y1]; exact rl_f h) (fun j hj => by rw [axf_a (by omega), y1]) (fun q h1 h2 => by funext j; rw [axf_a (by omega), y2 q (by omega)]) (fun t ht => by rw [axf_a (by omega), axf_a (by omega)]; exact y3 t ht) (by rw [axf_a (by omega), y4]) (by rw [axf_a (by omega), y5]) (fun j hj => by rw [axf_out (by omega), y6 j hj]) ?_
      unfold slL
      rw [axf_a (show o + 32 ≠ o + 33 by omega), y5]
      exact (seg_eq (by omega) (by omega)).mpr ⟨by omega, fun j j0 j1 => by rw [axf_in (by omega) (by omega), Int.zero_add, rl_line h hc.1 hc.2 j0 (by omega)]; congr 1; omega⟩
    · rw [if_neg (fun h9 => hc h9.2)]
      refine x_aload_n (pc := 0) hC dX11_show_0 rfl ?_
      refine x_iload_n (pc := 1) hC dX11_show_1 rfl ?_
      refine x_mV (pc := 2) hC cv_X11_85 dX11_show_2 (rl_sa h hn) (fx_ta hx) rfl (by decide) rfl rfl (Nat.le_of_ble_eq_true rfl) ?_
      dsimp only [Option.toList, List.cons_append, List.nil_append]
      refine x_astore_n (pc := 5) hC dX11_show_5 (Nat.le_of_ble_eq_true rfl) ?_
      dsimp only [List.set]
      refine x_aload_n (pc := 6) hC dX11_show_6 rfl ?_
      refine x_iload_n (pc := 7) hC dX11_show_7 rfl ?_
      refine x_mV (pc := 8) hC cv_X11_123 dX11_show_8 (rl_no h hI rc hc) (fx_ta hx) rfl (by decide) rfl rfl (Nat.le_of_ble_eq_true rfl) ?_
      dsimp only [Option.toList, List.cons_append, List.nil_append]
      refine x_astore (pc := 11) hC dX11_show_11 (Nat.le_of_ble_eq_true rfl) ?_
      dsimp only [List.set]
      refine x_aload_n (pc := 13) hC dX11_show_13 rfl ?_
      refine x_ifnull (pc := 14) hC 22 dX11_show_14 (by decide) (fun h => by cases h) (fun _ _ => ?_)
      refine x_aload (pc := 17) hC dX11_show_17 rfl ?_
      refine x_ifnonnull (pc := 19) hC 24 dX11_show_19 (by decide) (fun _ h => by cases h) (fun _ => ?_)
      refine x_iconst (pc := 22) hC dX11_show_22 ?_
      refine x_iret (pc := 23) hC rfl dX11_show_23 ?_
      exact rl_p0 h
  · rw [if_neg (fun h9 => hs5 h9.1)]
    refine x_aload_n (pc := 0) hC dX11_show_0 rfl ?_
    refine x_iload_n (pc := 1) hC dX11_show_1 rfl ?_
    refine x_mV (pc := 2) hC cv_X11_85 dX11_show_2 (rl_ns h rs hs5) (fx_ta hx) rfl (by decide) rfl rfl (Nat.le_of_ble_eq_true rfl) ?_
    dsimp only [Option.toList, List.cons_append, List.nil_append]
    refine x_astore_n (pc := 5) hC dX11_show_5 (Nat.le_of_ble_eq_true rfl) ?_
    dsimp only [List.set]
    refine x_aload_n (pc := 6) hC dX11_show_6 rfl ?_
    refine x_iload_n (pc := 7) hC dX11_show_7 rfl ?_
    refine x_mV (pc := 8) hC cv_X11_123 dX11_show_8 (c_commitAt hx (c := c) rc (by omega)) (fx_ta hx) rfl (by decide) rfl rfl (Nat.le_of_ble_eq_true rfl) ?_
    dsimp only [Option.toList, List.cons_append, List.nil_append]
    refine x_astore (pc := 11) hC dX11_show_11 (Nat.le_of_ble_eq_true rfl) ?_
    dsimp only [List.set]
    refine x_aload_n (pc := 13) hC dX11_show_13 rfl ?_
    refine x_ifnull (pc := 14) hC 22 dX11_show_14 (by decide) (fun _ => ?_) (fun _ h => by cases h)
    refine x_iconst (pc := 22) hC dX11_show_22 ?_
    refine x_iret (pc := 23) hC rfl dX11_show_23 ?_
    exact rl_p0 h

set_option maxHeartbeats 4000000 in
set_option maxRecDepth 100000 in
theorem c_trail {G : ax_G} {T : Nat → Nat} {N : Nat → Int} {I : Nat → Int → Int} {R : Nat → Int → Option Nat} {z a o : Nat} {σ : Nat → Int → Int} {A w : Int → Nat} (h : RelA G T N I R z a o σ A w) (hI : miC σ o) (hMS : miS σ o)  {s c : Int} (rs : ax_r s) (rc : ax_r c) : axM G YX11_trail 2 [vR a, vI s, vI c] T N I R z 1 24 (rPX G T N I R z a o (vI (tl σ o s c).1) (tl σ o s c).2) := by
  refine ax_enter (by decide) (Nat.le_of_ble_eq_true rfl) (ax_cat rfl) (fun f hC => ?_)
  show axX G f 1 24 _ 0 [vR a, vI s, vI c, vU, vU, vU] [] T N I R z 1 24
  have hx := rl_fx h
  have b1 := fx_b1 hx
  have b2 := fx_b2 hx
  have hn9 := rl_n h
  have hC1 := hI.1
  unfold tl
  by_cases hs5 : 0 ≤ s ∧ s < 5
  · obtain ⟨n, rfl⟩ : ∃ n : Nat, s = n := ⟨s.toNat, by omega⟩
    have hn : n < 5 := by omega
    have hem := rl_em h hn
    obtain ⟨k1, k2, k3, k4, k5⟩ := rl_sl h n hn
    by_cases hc : 0 ≤ c ∧ c < σ o 2
    · rw [if_pos ⟨hs5, hc⟩]
      obtain ⟨c1, c2, c3, c4, c5⟩ := (rl_cs h).2 c hc.1 hc.2
      obtain ⟨g1, g2, -, -, -, ⟨g5, g6⟩, g7, g8⟩ := rl_cc h c hc.1 hc.2
      have c52 := c5.2.1
      have wz : w c ≠ z ∧ A c ≠ z := by
        have e1 := fx_tz hx (w c) (by have := c5.1; omega)
        have e2 := fx_tz hx (A c) (by rcases c1 with e | e | e <;> omega)
        omega
      have hS9 : ax_n T z 13 (a + 177 + n) = 9 := by rw [axn_a (by omega)]; exact (fx_ss hx n hn).2
      have hlen : (path (σ (o + 2)) c).length ≤ 24 := path_len hI hc
      refine x_aload_n (pc := 0) hC dX11_trail_0 rfl ?_
      refine x_iload_n (pc := 1) hC dX11_trail_1 rfl ?_
      refine x_mV (pc := 2) hC cv_X11_85 dX11_trail_2 (rl_sa h hn) (fx_ta hx) rfl (by decide) rfl rfl (Nat.le_of_ble_eq_true rfl) ?_
      dsimp only [Option.toList, List.cons_append, List.nil_append]
      refine x_astore_n (pc := 5) hC dX11_trail_5 (Nat.le_of_ble_eq_true rfl) ?_
      dsimp only [List.set]
      refine x_aload_n (pc := 6) hC dX11_trail_6 rfl ?_
      refine x_iload_n (pc := 7) hC dX11_trail_7 rfl ?_
      refine x_mV (pc := 8) hC cv_X11_123 dX11_trail_8 (rl_at h hI hc) (fx_ta hx) rfl (by decide) rfl rfl (Nat.le_of_ble_eq_true rfl) ?_
      dsimp only [Option.toList, List.cons_append, List.nil_append]
      refine x_astore (pc := 11) hC dX11_trail_11 (Nat.le_of_ble_eq_true rfl) ?_
      dsimp only [List.set]
      refine x_aload_n (pc := 13) hC dX11_trail_13 rfl ?_
      refine x_ifnull (pc := 14) hC 22 dX11_trail_14 (by decide) (fun h => by cases h) (fun _ _ => ?_)
      refine x_aload (pc := 17) hC dX11_trail_17 rfl ?_
      refine x_ifnonnull (pc := 19) hC 24 dX11_trail_19 (by decide) (fun _ _ => ?_) (fun h => by cases h)
      refine x_aload (pc := 24) hC dX11_trail_24 rfl ?_
      refine x_callU (pc := 26) hC (cq_X11_315 c1) dX11_trail_26 (c_pathNumbers (rl_cs h) hc (fun d a1 a2 => by have := ((rl_cs h).2 d a1 a2).1; have := fx_tz hx (A d) (by rcases this with e | e | e <;> omega); omega) hlen) rfl rfl (by decide) (by omega) (by omega) rfl rfl (Nat.le_of_ble_eq_true rfl) (fun _ _ _ _ _ _ hq => ?_)
      obtain ⟨rfl, rfl, rfl, rfl, rfl, row, rfl, hrow⟩ := hq
      dsimp only [Option.toList, List.cons_append, List.nil_append]
      refine x_astore (pc := 29) hC dX11_trail_29 (Nat.le_of_ble_eq_true rfl) ?_
      dsimp only [List.set]
      refine x_aload_n (pc := 31) hC dX11_trail_31 rfl ?_
      refine x_aload (pc := 32) hC dX11_trail_32 rfl ?_
      refine x_iconst (pc := 34) hC dX11_trail_34 ?_
      refine x_rV (pc := 35) hC cv_X11_311 dX11_trail_35 (c_putArray (x := some z) (b := 0) hS9 (Or.inl rfl)) hS9 rfl (by decide) rfl rfl (Nat.le_of_ble_eq_true rfl) ?_
      rintro v9 I5 S5 ⟨rfl, rfl, rfl⟩
      dsimp only [Option.toList, List.nil_append]
      refine x_aload (pc := 38) hC dX11_trail_38 rfl ?_
      refine x_alen (pc := 40) hC dX11_trail_40 (by rw [axn_s]; decide) (by rw [axn_s]; decide) ?_
      refine x_iret (pc := 41) hC rfl dX11_trail_41 ?_
      rw [axn_s, List.length_reverse]
      obtain ⟨y1, y2, y3, y4, y5, y6, y7⟩ := cl_o (σ := σ) (o := o) (s := (n : Int)) (t := 1) (n := ((path (σ (o + 2)) c).length : Int))
      rw [List.length_reverse] at hrow
      refine ⟨rfl, fro_arr b1 b2 hn (fun _ _ => rfl), by omega, A, w, ?_⟩
      refine rl_arr h hMS hn (v := 1) (Or.inr rfl) rfl (by omega) (fun _ _ => rfl) (fun _ _ => rfl) (by rw [axf_a (by omega), y1]; exact rl_f h) (fun j hj => by rw [axf_a (by omega), y1]) (fun q h1 h2 => by funext j; rw [axf_a (by omega), y2 q (by omega)]) (fun t ht => by rw [axf_a (by omega), axf_a (by omega)]; exact y3 t ht) (by rw [axf_a (by omega), y4]) (by rw [axf_a (by omega), y5]) (fun j hj => by rw [axf_out (by omega), y6 j hj]) ?_
      unfold slL
      have e9 := seg_lf (path (σ (o + 2)) c).reverse
      rw [List.length_reverse] at e9
      rw [axf_a (show o + 32 ≠ o + 33 by omega), y5]
      refine hrow.trans (e9.symm.trans ?_)
      exact (seg_eq (by omega) (by omega)).mpr ⟨by omega, fun j j0 j1 => by rw [axf_in (by omega) (by omega), Int.zero_add]; congr 1; omega⟩
    · rw [if_neg (fun h9 => hc h9.2)]
      refine x_aload_n (pc := 0) hC dX11_trail_0 rfl ?_
      refine x_iload_n (pc := 1) hC dX11_trail_1 rfl ?_
      refine x_mV (pc := 2) hC cv_X11_85 dX11_trail_2 (rl_sa h hn) (fx_ta hx) rfl (by decide) rfl rfl (Nat.le_of_ble_eq_true rfl) ?_
      dsimp only [Option.toList, List.cons_append, List.nil_append]
      refine x_astore_n (pc := 5) hC dX11_trail_5 (Nat.le_of_ble_eq_true rfl) ?_
      dsimp only [List.set]
      refine x_aload_n (pc := 6) hC dX11_trail_6 rfl ?_
      refine x_iload_n (pc := 7) hC dX11_trail_7 rfl ?_
      refine x_mV (pc := 8) hC cv_X11_123 dX11_trail_8 (rl_no h hI rc hc) (fx_ta hx) rfl (by decide) rfl rfl (Nat.le_of_ble_eq_true rfl) ?_
      dsimp only [Option.toList, List.cons_append, List.nil_append]
      refine x_astore (pc := 11) hC dX11_trail_11 (Nat.le_of_ble_eq_true rfl) ?_
      dsimp only [List.set]
      refine x_aload_n (pc := 13) hC dX11_trail_13 rfl ?_
      refine x_ifnull (pc := 14) hC 22 dX11_trail_14 (by decide) (fun h => by cases h) (fun _ _ => ?_)
      refine x_aload (pc := 17) hC dX11_trail_17 rfl ?_
      refine x_ifnonnull (pc := 19) hC 24 dX11_trail_19 (by decide) (fun _ h => by cases h) (fun _ => ?_)
      refine x_iconst (pc := 22) hC dX11_trail_22 ?_
      refine x_iret (pc := 23) hC rfl dX11_trail_23 ?_
      exact rl_p0 h
  · rw [if_neg (fun h9 => hs5 h9.1)]
    refine x_aload_n (pc := 0) hC dX11_trail_0 rfl ?_
    refine x_iload_n (pc := 1) hC dX11_trail_1 rfl ?_
    refine x_mV (pc := 2) hC cv_X11_85 dX11_trail_2 (rl_ns h rs hs5) (fx_ta hx) rfl (by decide) rfl rfl (Nat.le_of_ble_eq_true rfl) ?_
    dsimp only [Option.toList, List.cons_append, List.nil_append]
    refine x_astore_n (pc := 5) hC dX11_trail_5 (Nat.le_of_ble_eq_true rfl) ?_
    dsimp only [List.set]
    refine x_aload_n (pc := 6) hC dX11_trail_6 rfl ?_
    refine x_iload_n (pc := 7) hC dX11_trail_7 rfl ?_
    refine x_mV (pc := 8) hC cv_X11_123 dX11_trail_8 (c_commitAt hx (c := c) rc (by omega)) (fx_ta hx) rfl (by decide) rfl rfl (Nat.le_of_ble_eq_true rfl) ?_
    dsimp only [Option.toList, List.cons_append, List.nil_append]
    refine x_astore (pc := 11) hC dX11_trail_11 (Nat.le_of_ble_eq_true rfl) ?_
    dsimp only [List.set]
    refine x_aload_n (pc := 13) hC dX11_trail_13 rfl ?_
    refine x_ifnull (pc := 14) hC 22 dX11_trail_14 (by decide) (fun _ => ?_) (fun _ h => by cases h)
    refine x_iconst (pc := 22) hC dX11_trail_22 ?_
    refine x_iret (pc := 23) hC rfl dX11_trail_23 ?_
    exact rl_p0 h

