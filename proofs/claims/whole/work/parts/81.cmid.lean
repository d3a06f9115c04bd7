/-! THE CLASS: in the midst of a replay -/
def Mid (G : ax_G) (T : Nat → Nat) (N : Nat → Int) (I : Nat → Int → Int) (R : Nat → Int → Option Nat) (z a o : Nat) (σ : Nat → Int → Int) (A w : Int → Nat) (e : Int) : Prop := RelA G T N I R z a o (ax_u σ o 40 e) A w ∧ rpK T N I R a o σ A
theorem e_row {σ : Nat → Int → Int} {o q : Nat} {e : Int} (h : q ≠ o) : ax_u σ o 40 e q = σ q := axu_row h
theorem e_fld {σ : Nat → Int → Int} {o : Nat} {e j : Int} (h : j ≠ 40) : ax_u σ o 40 e o j = σ o j := axu_j h
theorem e_rowL {σ : Nat → Int → Int} {o : Nat} {e c : Int} : rowL (ax_u σ o 40 e) o c = rowL σ o c := by unfold rowL rwI; rw [e_row (by omega), e_row (by omega)]
theorem e_rsL {σ : Nat → Int → Int} {o : Nat} {e : Int} : rsL (ax_u σ o 40 e) o = rsL σ o := rsL_eq (e_fld (by decide)) (e_row (by omega)) (e_row (by omega)) (e_row (by omega)) (e_row (by omega))
theorem e_thR {σ : Nat → Int → Int} {o : Nat} {e : Int} : thR (ax_u σ o 40 e) o = thR σ o := by unfold thR; rw [e_row (by omega), e_row (by omega), e_fld (by decide), e_fld (by decide)]
theorem e_kpL {σ : Nat → Int → Int} {o : Nat} {e : Int} : kpL (ax_u σ o 40 e) o = kpL σ o := by unfold kpL; rw [e_row (by omega), e_row (by omega), e_row (by omega), e_row (by omega), e_fld (by decide)]
theorem e_rpK {T : Nat → Nat} {N : Nat → Int} {I : Nat → Int → Int} {R : Nat → Int → Option Nat} {a o : Nat} {σ : Nat → Int → Int} {A : Int → Nat} {e : Int} : rpK T N I R a o (ax_u σ o 40 e) A ↔ rpK T N I R a o σ A := by
  unfold rpK
  rw [e_thR, e_kpL, e_fld (by decide), e_fld (by decide), e_fld (by decide), e_fld (by decide), e_fld (by decide), e_fld (by decide), e_row (by omega), e_row (by omega)]
theorem e_miC {σ : Nat → Int → Int} {o : Nat} {e : Int} (h : miC σ o) : miC (ax_u σ o 40 e) o := miC_eq (e_fld (by decide)) (e_row (by omega)) (e_row (by omega)) (e_row (by omega)) (e_row (by omega)) (e_row (by omega)) h
theorem e_miR {σ : Nat → Int → Int} {o : Nat} {e : Int} (h : miR σ o) : miR (ax_u σ o 40 e) o := miR_eq (e_fld (by decide)) (e_row (by omega)) (e_row (by omega)) (e_row (by omega)) (e_row (by omega)) h
theorem e_miS {σ : Nat → Int → Int} {o : Nat} {e : Int} (h : miS σ o) : miS (ax_u σ o 40 e) o := by
  unfold miS at *
  rw [e_row (show o + 31 ≠ o by omega), e_row (show o + 32 ≠ o by omega), e_row (show o + 33 ≠ o by omega), e_row (show o + 34 ≠ o by omega), e_row (show o + 35 ≠ o by omega), e_row (show o + 36 ≠ o by omega), e_row (show o + 4 ≠ o by omega), e_fld (show (3 : Int) ≠ 40 by decide)]
  exact h
/-- a step that touches the replay's own cells alone -/
theorem Mid.rep {G : ax_G} {T : Nat → Nat} {N : Nat → Int} {I : Nat → Int → Int} {R : Nat → Int → Option Nat} {z a o : Nat} {σ : Nat → Int → Int} {A w : Int → Nat} {e : Int} {I1 : Nat → Int → Int} {R1 : Nat → Int → Option Nat} {σ1 : Nat → Int → Int} (h : Mid G T N I R z a o σ A w e) (i0 : ∀ q, q ≠ a + 183 → q ≠ a + 186 → q ≠ a + 187 → I1 q = I q) (r0 : ∀ q, q ≠ a + 183 → q ≠ a + 184 → q ≠ a + 185 → q ≠ a + 188 → R1 q = R q) (r3 : ∀ k, k ≠ 2 → k ≠ 3 → R1 (a + 183) k = R (a + 183) k) (s0 : ∀ k, k = 0 ∨ k = 1 ∨ k = 2 ∨ k = 30 → σ1 o k = σ o k) (sq : ∀ q, q ≠ o → (q < o + 24 ∨ o + 31 ≤ q) → σ1 q = σ q) (r88 : r7 T R1 (a + 188)) (fg : ∀ k, 0 ≤ k → k < 4 → I1 (a + 186) k = σ1 (o + 29) k) (i8 : I1 (a + 183) 8 = I (a + 183) 8) (rp9 : rpK T N I1 R1 a o σ1 A) : Mid G T N I1 R1 z a o σ1 A w e := by
  refine ⟨rl_rep h.1 i0 r0 r3 (fun k hk => by rw [e_fld (by omega), e_fld (by omega)]; exact s0 k hk) (fun q h1 h2 => by rw [e_row h1, e_row h1]; exact sq q h1 h2) r88 (fun k e0 e1 => by rw [e_row (by omega)]; exact fg k e0 e1) (by rw [i8, axu_s]; have := rl_st h.1; rw [axu_s] at this; exact this) (fun _ => e_rpK.mpr rp9), rp9⟩
theorem Mid.fig {G : ax_G} {T : Nat → Nat} {N : Nat → Int} {I : Nat → Int → Int} {R : Nat → Int → Option Nat} {z a o : Nat} {σ : Nat → Int → Int} {A w : Int → Nat} {e : Int} (h : Mid G T N I R z a o σ A w e) {j v : Int} (hj : 0 ≤ j ∧ j < 4) : Mid G T N (ax_u I (a + 186) j v) R z a o (ax_u σ (o + 29) j v) A w e := by
  refine h.rep (fun q _ h2 _ => axu_row h2) (fun _ _ _ _ _ => rfl) (fun _ _ _ => rfl) (fun k _ => axu_a (by omega)) (fun q _ h2 => axu_row (by omega)) (rl_r7 h.1).2 (fun k e0 e1 => ?_) (axu_a (by omega)) ?_
  · have := rl_fg h.1 k e0 e1
    rw [e_row (by omega)] at this
    by_cases ek : k = j
    · rw [ek, axu_s, axu_s]
    · rw [axu_j ek, axu_j ek]; exact this
  · obtain ⟨k1, k2, k3, k4, k5, k6, k7, k8⟩ := h.2
    unfold rpK
    have eth : thR (ax_u σ (o + 29) j v) o = thR σ o := by unfold thR; rw [axu_row (by omega), axu_row (by omega), axu_a (by omega), axu_a (by omega)]
    have ekp : kpL (ax_u σ (o + 29) j v) o = kpL σ o := by unfold kpL; rw [axu_row (by omega), axu_row (by omega), axu_row (by omega), axu_row (by omega), axu_a (by omega)]
    rw [eth, ekp, axu_row (show o ≠ o + 29 by omega), axu_row (show o + 28 ≠ o + 29 by omega), axu_row (show o + 30 ≠ o + 29 by omega), axu_row (show a + 183 ≠ a + 186 by omega), axu_row (show a + 187 ≠ a + 186 by omega)]
    refine ⟨k1, k2, k3, k4, k5, k6, k7, fun k p hp => ?_⟩
    obtain ⟨q, x1, x2⟩ := k8 k p hp
    have b1 := fx_b1 (rl_fx h.1)
    exact ⟨q, x1, reE_fr x2 (fun u hu _ hs => ⟨axu_row (by omega), hs⟩) (fun _ _ _ => rfl)⟩
theorem Mid.at {G : ax_G} {T : Nat → Nat} {N : Nat → Int} {I : Nat → Int → Int} {R : Nat → Int → Option Nat} {z a o : Nat} {σ : Nat → Int → Int} {A w : Int → Nat} {e : Int} (h : Mid G T N I R z a o σ A w e) : Mid G T N (ax_u I (a + 183) 5 (I (a + 183) 5 - 1)) R z a o (nxt σ o) A w e := by
  have b1 := fx_b1 (rl_fx h.1)
  have hfg : ∀ k, 0 ≤ k → k < 4 → I (a + 186) k = σ (o + 29) k := fun k e0 e1 => by have := rl_fg h.1 k e0 e1; rw [e_row (by omega)] at this; exact this
  refine h.rep (fun q h1 _ _ => axu_row h1) (fun _ _ _ _ _ => rfl) (fun _ _ _ => rfl) (fun k hk => axu_j (by omega)) (fun q h1 _ => axu_row h1) (rl_r7 h.1).2 (fun k e0 e1 => by unfold nxt; rw [axu_a (by omega), axu_a (by omega)]; exact hfg k e0 e1) (axu_j (by decide)) ?_
  obtain ⟨⟨k1, k1b, k1c, k1d⟩, k2, k3, k4, k5, k6, k7, k8⟩ := h.2
  have eth : thR (nxt σ o) o = thR σ o := by unfold thR nxt; rw [axu_row (by omega), axu_row (by omega), axu_j (by decide), axu_j (by decide)]
  have ekp : kpL (nxt σ o) o = kpL σ o := by unfold kpL nxt; rw [axu_row (by omega), axu_row (by omega), axu_row (by omega), axu_row (by omega), axu_j (by decide)]
  have eo : ∀ k, k ≠ 47 → nxt σ o o k = σ o k := fun k hk => axu_j hk
  have e47 : nxt σ o o 47 = σ o 47 + 1 := axu_s
  have eq : ∀ q, q ≠ o → nxt σ o q = σ q := fun q hq => axu_row hq
  unfold rpK
  rw [eth, ekp, eo 41 (by decide), eo 42 (by decide), eo 43 (by decide), eo 44 (by decide), eo 46 (by decide), e47, eq (o + 28) (by omega), eq (o + 30) (by omega), axu_s, axu_j (show (1 : Int) ≠ 5 by decide), axu_j (show (7 : Int) ≠ 5 by decide), axu_j (show (10 : Int) ≠ 5 by decide), axu_j (show (13 : Int) ≠ 5 by decide), axu_row (show a + 187 ≠ a + 183 by omega)]
  refine ⟨⟨k1, by rw [k1b]; omega, k1c, k1d⟩, k2, k3, k4, k5, k6, k7, fun k p hp => ?_⟩
  obtain ⟨q, x1, x2⟩ := k8 k p hp
  exact ⟨q, x1, reE_fr x2 (fun u hu _ hs => ⟨axu_row (by omega), hs⟩) (fun _ _ _ => rfl)⟩
theorem Mid.top {G : ax_G} {T : Nat → Nat} {N : Nat → Int} {I : Nat → Int → Int} {R : Nat → Int → Option Nat} {z a o : Nat} {σ : Nat → Int → Int} {A w : Int → Nat} {e : Int} (h : Mid G T N I R z a o σ A w e) {t : Int} : Mid G T N I (ax_u R (a + 183) 3 (some (A t))) z a o (ax_u σ o 43 t) A w e := by
  have b1 := fx_b1 (rl_fx h.1)
  have hfg : ∀ k, 0 ≤ k → k < 4 → I (a + 186) k = σ (o + 29) k := fun k e0 e1 => by have := rl_fg h.1 k e0 e1; rw [e_row (by omega)] at this; exact this
  refine h.rep (fun _ _ _ _ => rfl) (fun q h1 _ _ _ => axu_row h1) (fun k _ h3 => axu_j h3) (fun k hk => axu_j (by omega)) (fun q h1 _ => axu_row h1) (fun j v a1 a2 hv => by rw [axu_row (by omega)] at hv; exact (rl_r7 h.1).2 j v a1 a2 hv) (fun k e0 e1 => by rw [axu_a (by omega)]; exact hfg k e0 e1) rfl ?_
  obtain ⟨k1, k2, k3, k4, k5, k6, k7, k8⟩ := h.2
  have eth : thR (ax_u σ o 43 t) o = thR σ o := by unfold thR; rw [axu_row (by omega), axu_row (by omega), axu_j (by decide), axu_j (by decide)]
  have ekp : kpL (ax_u σ o 43 t) o = kpL σ o := by unfold kpL; rw [axu_row (by omega), axu_row (by omega), axu_row (by omega), axu_row (by omega), axu_j (by decide)]
  have eo : ∀ k, k ≠ 43 → ax_u σ o 43 t o k = σ o k := fun k hk => axu_j hk
  have eq : ∀ q, q ≠ o → ax_u σ o 43 t q = σ q := fun q hq => axu_row hq
  unfold rpK
  rw [eth, ekp, eo 41 (by decide), eo 42 (by decide), eo 44 (by decide), eo 46 (by decide), eo 47 (by decide), axu_s, eq (o + 28) (by omega), eq (o + 30) (by omega), axu_s, axu_j (show (2 : Int) ≠ 3 by decide), axu_row (show a + 184 ≠ a + 183 by omega), axu_row (show a + 185 ≠ a + 183 by omega), axu_row (show a + 188 ≠ a + 183 by omega)]
  refine ⟨k1, ⟨k2.1, rfl⟩, k3, k4, k5, k6, k7, fun k p hp => ?_⟩
  obtain ⟨q, x1, x2⟩ := k8 k p hp
  exact ⟨q, x1, reE_fr x2 (fun u hu _ hs => ⟨rfl, fun s h9 => by rw [axu_a (by omega)]; exact hs s h9⟩) (fun q hq _ => axu_row (by omega))⟩
theorem Mid.sc {G : ax_G} {T : Nat → Nat} {N : Nat → Int} {I : Nat → Int → Int} {R : Nat → Int → Option Nat} {z a o : Nat} {σ : Nat → Int → Int} {A w : Int → Nat} {e : Int} {J : Nat → Int → Int} {S : Nat → Int → Option Nat} (h : Mid G T N I R z a o σ A w e) (k : scK T N a I J R S) : Mid G T N J S z a o σ A w e := by
  have b1 := fx_b1 (rl_fx h.1)
  refine ⟨rl_sc h.1 k, ?_⟩
  obtain ⟨k1, k2, k3, k4, k5, k6, k7, k8⟩ := h.2
  have ei : ∀ q, (a + 176 ≤ q ∧ q < a + 189) ∨ a + 197 ≤ q → J q = I q ∧ S q = R q := fun q hq => k.1 q (by omega)
  unfold rpK
  rw [(ei (a + 183) (by omega)).1, (ei (a + 187) (by omega)).1, (ei (a + 183) (by omega)).2, (ei (a + 184) (by omega)).2, (ei (a + 185) (by omega)).2, (ei (a + 188) (by omega)).2]
  refine ⟨k1, k2, k3, k4, k5, k6, k7, fun i p hp => ?_⟩
  obtain ⟨q, x1, x2⟩ := k8 i p hp
  exact ⟨q, x1, reE_fr x2 (fun u hu _ hs => ⟨(ei u (by omega)).1, fun s h9 => by rw [(ei (a + 177 + s) (by omega)).2]; exact hs s h9⟩) (fun q hq _ => (ei q (by omega)).2)⟩
theorem Mid.nw {G : ax_G} {T : Nat → Nat} {N : Nat → Int} {I : Nat → Int → Int} {R : Nat → Int → Option Nat} {z a o : Nat} {σ : Nat → Int → Int} {A w : Int → Nat} {e : Int} {k : Int} {row : Int → Int} (h : Mid G T N I R z a o σ A w e) : Mid G (ax_n T z 13) (ax_n N z k) (ax_n I z row) (ax_n R z (fun _ => none)) (z + 1) a o σ A w e := by
  have hx := rl_fx h.1
  have b1 := fx_b1 hx
  have b2 := fx_b2 hx
  have tz0 := fx_tz hx
  refine ⟨rl_nw h.1, ?_⟩
  obtain ⟨k1, k2, k3, k4, k5, k6, k7, k8⟩ := h.2
  unfold rpK
  rw [axn_a (show a + 183 ≠ z by omega), axn_a (show a + 187 ≠ z by omega), axn_a (show a + 183 ≠ z by omega), axn_a (show a + 184 ≠ z by omega), axn_a (show a + 185 ≠ z by omega), axn_a (show a + 188 ≠ z by omega)]
  refine ⟨k1, k2, k3, k4, k5, k6, k7, fun i p hp => ?_⟩
  obtain ⟨q, x1, x2⟩ := k8 i p hp
  exact ⟨q, x1, reE_up x2 (fun q hq => ⟨axn_a (by have := tz0 q hq; omega), axn_a (by have := tz0 q hq; omega)⟩) (fun u hu h13 hs => ⟨axn_a (by have := tz0 u (by omega); omega), fun s h9 => by rw [axn_a (by omega)]; exact hs s h9⟩) (fun q hq h7 => axn_a (by have := tz0 q (by omega); omega))⟩

