/-! THE CLASS: commits are dropped -/
def drI (I J : Nat → Int → Int) (A : Int → Nat) (f x : Int) : Prop := (∀ c, f ≤ c → c < x → J (A c) 5 = 1 ∧ ∀ j, j ≠ 5 → J (A c) j = I (A c) j) ∧ ∀ q, (∀ c, f ≤ c → c < x → q ≠ A c) → J q = I q
theorem drI_j {I J : Nat → Int → Int} {A : Int → Nat} {f x : Int} (h : drI I J A f x) (q : Nat) {j : Int} (hj : j ≠ 5) : J q j = I q j := by
  by_cases hq : ∃ c, f ≤ c ∧ c < x ∧ q = A c
  · obtain ⟨c, h1, h2, rfl⟩ := hq
    exact (h.1 c h1 h2).2 j hj
  · rw [h.2 q (fun c h1 h2 h3 => hq ⟨c, h1, h2, h3⟩)]

set_option maxHeartbeats 4000000 in
set_option maxRecDepth 100000 in
theorem c_drop {G : ax_G} {T : Nat → Nat} {N : Nat → Int} {I : Nat → Int → Int} {R : Nat → Int → Option Nat} {z a o : Nat} {σ : Nat → Int → Int} {A w : Int → Nat} (h : RelA G T N I R z a o σ A w) (hm : 0 ≤ σ o 2 ∧ σ o 2 ≤ 24) {f : Int} (hf : 0 ≤ f ∧ f ≤ σ o 2) : axR G YX11_dropCommitsFrom 1 [vR a, vI f] T N I R z (fun r1 I1 R1 => r1 = none ∧ (∃ J, drI I J A f (σ o 2) ∧ I1 = ax_u J a 2 f) ∧ (∀ q, q ≠ a + 2 → R1 q = R q) ∧ (∀ j, j < f → R1 (a + 2) j = R (a + 2) j)) := by
  refine ax_enter (by decide) (Nat.le_of_ble_eq_true rfl) (ax_cat rfl) (fun fr hC => ?_)
  show axX G fr 0 0 _ 0 [vR a, vI f, vU, vU] [] T N I R z 0 0
  have hx := rl_fx h
  have b1 := fx_b1 hx
  have hn := rl_n h
  have fxs : ∀ S : Nat → Int → Option Nat, (∀ q, q ≠ a + 2 → S q = R q) → fxS G T N S z a o := fun S hS => fx_up hx (fun _ _ => ⟨rfl, rfl⟩) (hS a (by omega)) (hS _ (by omega)) (fun k _ => by rw [hS (a + 5) (by omega)]) (fun q a1 a2 => hS q (by omega)) (fun k _ _ => by rw [hS (a + 183) (by omega)]) (fun k _ _ => by rw [hS (a + 189) (by omega)]) (Nat.le_refl _) (fx_tz hx)
  have loop : ∀ (n : Nat) (x : Int) (J : Nat → Int → Int) (S : Nat → Int → Option Nat) (c3 : ax_V), (σ o 2 - x).toNat ≤ n → f ≤ x → x ≤ σ o 2 → drI I J A f x → (∀ q, q ≠ a + 2 → S q = R q) → (∀ j, j < f → S (a + 2) j = R (a + 2) j) → (∀ j, x ≤ j → S (a + 2) j = R (a + 2) j) → axX G fr 0 0 (fun r1 T1 N1 I1 R1 z1 => (r1 = none ∧ (∃ J, drI I J A f (σ o 2) ∧ I1 = ax_u J a 2 f) ∧ (∀ q, q ≠ a + 2 → R1 q = R q) ∧ (∀ j, j < f → R1 (a + 2) j = R (a + 2) j)) ∧ T1 = T ∧ N1 = N ∧ z1 = z) 2 [vR a, vI f, vI x, c3] [] T N J S z 0 0 := by
    intro n
    induction n with
    | zero =>
      intro x J S c3 hn9 x0 x1 dJ s1 s2 s3
      have ja : J a 2 = σ o 2 := by rw [drI_j dJ a (by decide)]; exact hn
      have hxS := fxs S s1
      refine x_iload_n (pc := 2) hC dX11_dropCommitsFrom_2 rfl ?_
      refine x_aload_n (pc := 3) hC dX11_dropCommitsFrom_3 rfl ?_
      refine x_getI (pc := 4) hC gf_X11_105 dX11_dropCommitsFrom_4 (fx_ta hxS) ?_
      rw [ja]
      refine x_icmp_ge (pc := 7) hC 38 dX11_dropCommitsFrom_7 (by decide) (by omega) (by omega) (fun b7 => ?_) (fun b7 => ?_)
      · refine x_aload_n (pc := 38) hC dX11_dropCommitsFrom_38 rfl ?_
        refine x_iload_n (pc := 39) hC dX11_dropCommitsFrom_39 rfl ?_
        refine x_putI (pc := 40) hC pf_X11_105 dX11_dropCommitsFrom_40 (fx_ta hxS) (by decide) ?_
        refine x_vret (pc := 43) hC rfl dX11_dropCommitsFrom_43 ?_
        have e : x = σ o 2 := by omega
        subst e
        exact ⟨⟨rfl, ⟨J, dJ, rfl⟩, s1, s2⟩, rfl, rfl, rfl⟩
      · exfalso; omega
    | succ n ih =>
      intro x J S c3 hn9 x0 x1 dJ s1 s2 s3
      have ja : J a 2 = σ o 2 := by rw [drI_j dJ a (by decide)]; exact hn
      have hxS := fxs S s1
      by_cases hx9 : x < σ o 2
      · have hca := c_commitAt (G := G) (I := J) hxS (c := x) (by constructor <;> omega) (by omega)
        rw [ja, if_pos (by omega), s3 x (by omega), (rl_cc h x (by omega) hx9).1] at hca
        obtain ⟨k1, k2, -⟩ := (rl_cs h).2 x (by omega) hx9
        have aA := (rl_cc h x (by omega) hx9).2.2.2.2.2.2.1
        refine x_iload_n (pc := 2) hC dX11_dropCommitsFrom_2 rfl ?_
        refine x_aload_n (pc := 3) hC dX11_dropCommitsFrom_3 rfl ?_
        refine x_getI (pc := 4) hC gf_X11_105 dX11_dropCommitsFrom_4 (fx_ta hxS) ?_
        rw [ja]
        refine x_icmp_ge (pc := 7) hC 38 dX11_dropCommitsFrom_7 (by decide) (by omega) (by omega) (fun b7 => ?_) (fun b7 => ?_)
        · exfalso; omega
        · refine x_aload_n (pc := 10) hC dX11_dropCommitsFrom_10 rfl ?_
          refine x_iload_n (pc := 11) hC dX11_dropCommitsFrom_11 rfl ?_
          refine x_mV (pc := 12) hC cv_X11_123 dX11_dropCommitsFrom_12 hca (fx_ta hxS) rfl (by decide) rfl rfl (Nat.le_of_ble_eq_true rfl) ?_
          dsimp only [Option.toList, List.cons_append, List.nil_append]
          refine x_astore_n (pc := 15) hC dX11_dropCommitsFrom_15 (Nat.le_of_ble_eq_true rfl) ?_
          dsimp only [List.set]
          refine x_aload_n (pc := 16) hC dX11_dropCommitsFrom_16 rfl ?_
          refine x_ifnull (pc := 17) hC 32 dX11_dropCommitsFrom_17 (by decide) (fun h => by cases h) (fun _ _ => ?_)
          refine x_aload_n (pc := 20) hC dX11_dropCommitsFrom_20 rfl ?_
          refine x_iconst (pc := 21) hC dX11_dropCommitsFrom_21 ?_
          refine x_putZ (pc := 22) hC (pp_X11_324 k1) dX11_dropCommitsFrom_22 rfl (by decide) (Or.inr rfl) ?_
          refine x_aload_n (pc := 25) hC dX11_dropCommitsFrom_25 rfl ?_
          refine x_getO (pc := 26) hC gf_X11_20 dX11_dropCommitsFrom_26 (fx_ta hxS) (fx_cm hxS).1 ?_
          refine x_iload_n (pc := 29) hC dX11_dropCommitsFrom_29 rfl ?_
          refine x_null (pc := 30) hC dX11_dropCommitsFrom_30 ?_
          refine x_aast (pc := 31) hC axEl_15 dX11_dropCommitsFrom_31 (fx_cm hxS).2.1 (by omega) (by rw [(fx_cm hxS).2.2]; omega) (fun v hv => by cases hv) ?_
          refine x_iinc (pc := 32) hC dX11_dropCommitsFrom_32 rfl ?_
          dsimp only [List.set]
          refine x_goto (pc := 35) hC 2 dX11_dropCommitsFrom_35 (by decide) ?_
          refine ih (x + 1) _ _ _ (by omega) (by omega) (by omega) ⟨fun c c0 c1 => ?_, fun q hq => ?_⟩ (fun q hq => by rw [axu_row hq]; exact s1 q hq) (fun j hj => by rw [axu_j (by omega)]; exact s2 j hj) (fun j hj => by rw [axu_j (by omega)]; exact s3 j (by omega))
          · by_cases e : c = x
            · rw [e]
              refine ⟨axu_s, fun j hj => ?_⟩
              rw [axu_j hj, drI_j dJ _ hj]
            · have hne : A c ≠ A x := fun h9 => by
                have e1 := ((rl_cs h).2 c (by omega) (by omega)).2.1
                rw [h9, k2] at e1
                omega
              obtain ⟨y1, y2⟩ := dJ.1 c c0 (by omega)
              refine ⟨by rw [axu_a hne]; exact y1, fun j hj => by rw [axu_a hne]; exact y2 j hj⟩
          · rw [axu_row (hq x (by omega) (by omega))]
            exact dJ.2 q (fun c c0 c1 => hq c c0 (by omega))
      · refine x_iload_n (pc := 2) hC dX11_dropCommitsFrom_2 rfl ?_
        refine x_aload_n (pc := 3) hC dX11_dropCommitsFrom_3 rfl ?_
        refine x_getI (pc := 4) hC gf_X11_105 dX11_dropCommitsFrom_4 (fx_ta hxS) ?_
        rw [ja]
        refine x_icmp_ge (pc := 7) hC 38 dX11_dropCommitsFrom_7 (by decide) (by omega) (by omega) (fun b7 => ?_) (fun b7 => ?_)
        · refine x_aload_n (pc := 38) hC dX11_dropCommitsFrom_38 rfl ?_
          refine x_iload_n (pc := 39) hC dX11_dropCommitsFrom_39 rfl ?_
          refine x_putI (pc := 40) hC pf_X11_105 dX11_dropCommitsFrom_40 (fx_ta hxS) (by decide) ?_
          refine x_vret (pc := 43) hC rfl dX11_dropCommitsFrom_43 ?_
          have e : x = σ o 2 := by omega
          subst e
          exact ⟨⟨rfl, ⟨J, dJ, rfl⟩, s1, s2⟩, rfl, rfl, rfl⟩
        · exfalso; omega
  refine x_iload_n (pc := 0) hC dX11_dropCommitsFrom_0 rfl ?_
  refine x_istore_n (pc := 1) hC dX11_dropCommitsFrom_1 (Nat.le_of_ble_eq_true rfl) ?_
  dsimp only [List.set]
  exact loop _ f I R _ (Nat.le_refl _) (by omega) hf.2 ⟨fun c c0 c1 => by omega, fun q _ => rfl⟩ (fun _ _ => rfl) (fun _ _ => rfl) (fun _ _ => rfl)

/-- commits have been dropped, the replay is over -/
theorem rl_ab {G : ax_G} {T : Nat → Nat} {N : Nat → Int} {I : Nat → Int → Int} {R : Nat → Int → Option Nat} {z a o : Nat} {σ : Nat → Int → Int} {A w : Int → Nat} {I1 : Nat → Int → Int} {R1 : Nat → Int → Option Nat} {σ1 : Nat → Int → Int} (h : RelA G T N I R z a o σ A w) (hMS : miS σ o) {f : Int} {J : Nat → Int → Int} {A1 : Int → Nat} (hf : 0 ≤ f ∧ f ≤ σ o 2) (dJ : drI I J A f (σ o 2)) (hA : ∀ c, 0 ≤ c → c < f → A1 c = A c) (i0 : ∀ q, q ≠ a → q ≠ a + 5 → q ≠ a + 183 → q ≠ a + 186 → I1 q = J q) (ia : ∀ j, j ≠ 2 → I1 a j = I a j) (i2 : I1 a 2 = f) (i8 : I1 (a + 183) 8 = 0) (r0 : ∀ q, q ≠ a + 2 → q ≠ a + 6 → R1 q = R q) (r2 : ∀ j, j < f → R1 (a + 2) j = R (a + 2) j) (s2 : σ1 o 2 = f) (s40 : σ1 o 40 = 0) (s01 : σ1 o 0 = σ o 0 ∧ σ1 o 1 = σ o 1) (sq : ∀ q, q ≠ o → q ≠ o + 7 → q < o + 20 ∨ (o + 31 ≤ q ∧ q ≤ o + 36) → σ1 q = σ q) (tp : ∀ b, 0 ≤ b → b < 4 → R (a + 3) b = some (A1 (σ1 (o + 7) b))) (rs : I1 (a + 5) 1 = (rsL σ1 o).length ∧ (rsL σ1 o).length ≤ 8 ∧ ∀ (k : Nat) (p : List Int × List Int), (rsL σ1 o)[k]? = some p → ∃ q, R1 (a + 6) k = some q ∧ reE T N I R a o q p) (r6 : r7 T R1 (a + 6)) (fg : ∀ k, 0 ≤ k → k < 4 → I1 (a + 186) k = σ1 (o + 29) k) : RelA G T N I1 R1 z a o σ1 A1 w := by
  have hx := rl_fx h
  have b0 := fx_b0 hx
  have b1 := fx_b1 hx
  have n1 := (fx_nl hx).2
  have hx' : fxS G T N R1 z a o := fx_up hx (fun _ _ => ⟨rfl, rfl⟩) (r0 a (by omega) (by omega)) (r0 _ (by omega) (by omega)) (fun k _ => by rw [r0 (a + 5) (by omega) (by omega)]) (fun q a1 a2 => r0 q (by omega) (by omega)) (fun k _ _ => by rw [r0 (a + 183) (by omega) (by omega)]) (fun k _ _ => by rw [r0 (a + 189) (by omega) (by omega)]) (Nat.le_refl _) (fx_tz hx)
  have cc := rl_cc h
  have cs := rl_cs h
  have aA : ∀ c, 0 ≤ c → c < σ o 2 → A c = a + 182 ∨ o + 37 ≤ A c := fun c a1 a2 => (cc c a1 a2).2.2.2.2.2.2.1
  have aw : ∀ c, 0 ≤ c → c < σ o 2 → w c = G.2.2.2.2.1 ∨ o + 37 ≤ w c := fun c a1 a2 => (cc c a1 a2).2.2.2.2.2.2.2
  have hnA : ∀ q, ¬ pT (T q) → ∀ c, f ≤ c → c < σ o 2 → q ≠ A c := fun q hq c a1 a2 e => hq (by rw [e]; exact (cs.2 c (by omega) a2).1)
  have ei : ∀ q, q ≠ a → q ≠ a + 5 → q ≠ a + 183 → q ≠ a + 186 → ¬ pT (T q) → I1 q = I q := fun q h1 h2 h3 h4 h5 => by rw [i0 q h1 h2 h3 h4]; exact dJ.2 q (hnA q h5)
  have tg : ∀ q, T q = 9 ∨ T q = 10 ∨ T q = 13 ∨ T q = 16 ∨ T q = 15 ∨ T q = 6 → ¬ pT (T q) := fun q hq h9 => by rcases h9 with e | e | e <;> omega
  have inj : ∀ c d, 0 ≤ c → c < σ o 2 → 0 ≤ d → d < σ o 2 → A c = A d → c = d := fun c d c0 c1 d0 d1 e => by
    have e1 := (cs.2 c c0 c1).2.1
    have e2 := (cs.2 d d0 d1).2.1
    rw [e, e2] at e1
    exact e1.symm
  have eA : ∀ c, 0 ≤ c → c < f → I1 (A c) = I (A c) ∧ R1 (A c) = R (A c) ∧ I1 (w c) = I (w c) := fun c a1 a2 => by
    have h1 := aA c a1 (by omega)
    have h2 := aw c a1 (by omega)
    refine ⟨?_, r0 _ (by omega) (by omega), ei _ (by omega) (by omega) (by omega) (by omega) (tg _ (by have := (cs.2 c a1 (by omega)).2.2.2.2.1; omega))⟩
    rw [i0 _ (by omega) (by omega) (by omega) (by omega)]
    exact dJ.2 _ (fun d d0 d1 e => by have := inj c d a1 (by omega) (by omega) d1 e; omega)
  have eE : ∀ q p, reE T N I R a o q p → reE T N I1 R1 a o q p := fun q p hq => reE_up hq (fun _ _ => ⟨rfl, rfl⟩) (fun u hu h13 hn => ⟨ei u (by omega) (by omega) (by omega) (by omega) (tg u (by omega)), fun s hs => by rw [r0 _ (by omega) (by omega)]; exact hn s hs⟩) (fun q hq _ => r0 q (by omega) (by omega))
  have t9 : ∀ s : Nat, s < 5 → T (a + 177 + s) = 9 := fun s hs => (fx_ss hx s hs).2
  refine ⟨hx', fun j hj => by rw [ei (a + 176) (by omega) (by omega) (by omega) (by omega) (tg _ (by have := (fx_sc hx).2.1; omega))]; exact rl_sg h j hj, by rw [i2, s2], by rw [ei (a + 1) (by omega) (by omega) (by omega) (by omega) (tg _ (by have := (fx_tr hx).2; omega)), s01.2]; exact rl_t h, by rw [ia 11 (by decide), s01.1]; exact rl_f h, ⟨?_, fun c a1 a2 => ?_⟩, fun c a1 a2 => ?_, fun b d0 d1 => by rw [r0 (a + 3) (by omega) (by omega)]; exact tp b d0 d1, fun s hs => ?_, fun s hs u hu => ?_, ⟨rs.1, rs.2.1, fun k p hp => ?_⟩, ⟨r6, fun j v a1 a2 hv => ?_⟩, fg, by rw [i8, s40], fun h9 => absurd s40 h9⟩
  · rw [s2, sq (o + 2) (by omega) (by omega) (by omega)]
    exact ⟨cs.1.1, fun x x0 x1 => cs.1.2 x x0 (by omega)⟩
  · rw [s2] at a2
    obtain ⟨d1, d2, d3, d4, d5⟩ := cs.2 c a1 (by omega)
    obtain ⟨e1, e2, e3⟩ := eA c a1 a2
    rw [hA c a1 a2, e1, e2, sq (o + 2) (by omega) (by omega) (by omega)]
    refine ⟨d1, d2, ?_, d4, rwS_fr d5 e3⟩
    rw [d3]
    by_cases hc0 : c = 0
    · rw [if_pos hc0, if_pos hc0]
    · rw [if_neg hc0, if_neg hc0]
      have := cs.1.2 c (by omega) (by omega)
      rw [hA _ this.1 (by omega)]
  · rw [s2] at a2
    obtain ⟨g1, g2, g3, ⟨g4, g4'⟩, g5, g6, g7, g8⟩ := cc c a1 (by omega)
    obtain ⟨e1, e2, e3⟩ := eA c a1 a2
    have er : rowL σ1 o c = rowL σ o c := by unfold rowL rwI; rw [sq (o + 5) (by omega) (by omega) (by omega), sq (o + 6) (by omega) (by omega) (by omega)]
    rw [hA c a1 a2, e1, e2, e3, r2 c a2, er, sq (o + 1) (by omega) (by omega) (by omega), sq (o + 3) (by omega) (by omega) (by omega), sq (o + 6) (by omega) (by omega) (by omega)]
    refine ⟨g1, g2, g3, ⟨?_, g4'⟩, g5, g6, g7, g8⟩
    rw [g4]
    by_cases hg9 : σ (o + 3) c = -9
    · rw [if_pos hg9, if_pos hg9]
    · rw [if_neg hg9, if_neg hg9, hA _ (by omega) (by omega)]
  · obtain ⟨k1, k2, k3, k4, k5⟩ := rl_sl h s hs
    have h34 := hMS.2.2.2.1 s
    unfold slK
    rw [ei (a + 177 + s) (by omega) (by omega) (by omega) (by omega) (tg _ (Or.inl (t9 s hs))), r0 (a + 177 + s) (by omega) (by omega), sq (o + 31) (by omega) (by omega) (by omega), sq (o + 32) (by omega) (by omega) (by omega), sq (o + 34) (by omega) (by omega) (by omega), sq (o + 35) (by omega) (by omega) (by omega)]
    have esl : slL σ1 o s = slL σ o s := by unfold slL; rw [sq (o + 32) (by omega) (by omega) (by omega), sq (o + 33) (by omega) (by omega) (by omega)]
    rw [esl]
    refine ⟨k1, k2, k3, fun h9 => ?_, fun h9 => ?_⟩
    · obtain ⟨x1, x2, u, x3, x4, x5, x6, x7⟩ := k4 h9
      exact ⟨x1, x2, u, x3, x4, x5, by rw [ei u (by omega) (by omega) (by omega) (by omega) (tg u (by omega))]; exact x6, x7⟩
    · obtain ⟨x1, u, x3, x4, x5, x6, x7, x8⟩ := k5 h9
      have hu1 : I1 u = J u := i0 u (by omega) (by omega) (by omega) (by omega)
      have hl : hlv σ1 o s ↔ hlv σ o s ∧ σ (o + 34) s < f := by
        unfold hlv
        rw [s2, sq (o + 34) (by omega) (by omega) (by omega), sq (o + 4) (by omega) (by omega) (by omega), sq (o + 36) (by omega) (by omega) (by omega)]
        constructor
        · intro h8; exact ⟨⟨by omega, h8.2⟩, h8.1⟩
        · intro h8; exact ⟨h8.2, h8.1.2⟩
      refine ⟨x1, u, x3, x4, x5, x6, fun h8 => ?_, fun h8 => ?_⟩
      · rw [hl] at h8
        rw [hA _ h34.1 h8.2]; exact x7 h8.1
      · rw [hu1]
        by_cases hd : ∃ c, f ≤ c ∧ c < σ o 2 ∧ u = A c
        · obtain ⟨c, c0, c1, rfl⟩ := hd
          exact (dJ.1 c c0 c1).1
        · rw [dJ.2 u (fun c c0 c1 e => hd ⟨c, c0, c1, e⟩)]
          refine x8 (fun h7 => ?_)
          by_cases h6 : σ (o + 34) s < f
          · exact h8 (hl.mpr ⟨h7, h6⟩)
          · exact hd ⟨_, by omega, h7.1, x7 h7⟩
  · rw [r0 (a + 177 + s) (by omega) (by omega)] at hu
    obtain ⟨x1, x2⟩ := rl_sd h s hs u hu
    exact ⟨fun c a1 a2 => x1 c a1 (by rw [s2] at a2; omega), fun t ht hne => by rw [r0 (a + 177 + t) (by omega) (by omega)]; exact x2 t ht hne⟩
  · obtain ⟨q, x1, x2⟩ := rs.2.2 k p hp
    exact ⟨q, x1, eE q p x2⟩
  · rw [r0 (a + 188) (by omega) (by omega)] at hv
    exact (rl_r7 h).2 j v a1 a2 hv

