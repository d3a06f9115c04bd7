/-! THE CLASS and the reference: how they hang together -/
def hlv (σ : Nat → Int → Int) (o : Nat) (s : Int) : Prop := σ (o + 34) s < σ o 2 ∧ σ (o + 4) (σ (o + 34) s) = σ (o + 36) s
def slK (T : Nat → Nat) (N : Nat → Int) (I : Nat → Int → Int) (R : Nat → Int → Option Nat) (a o : Nat) (σ : Nat → Int → Int) (A : Int → Nat) (s : Nat) : Prop := (I (a + 177 + s) 1 = 0 ∨ I (a + 177 + s) 1 = 1) ∧ (σ (o + 31) s = -9 ∨ σ (o + 31) s = 0 ∨ σ (o + 31) s = 1 ∨ σ (o + 31) s = 2) ∧ (σ (o + 31) s = -9 → R (a + 177 + s) 0 = none ∧ R (a + 177 + s) 2 = none) ∧ (σ (o + 31) s = 0 ∨ σ (o + 31) s = 1 → R (a + 177 + s) 2 = none ∧ I (a + 177 + s) 1 = 1 - σ (o + 31) s ∧ ∃ u, R (a + 177 + s) 0 = some u ∧ T u = 13 ∧ N u = σ (o + 32) s ∧ seg (I u) 0 (σ (o + 32) s) = slL σ o s ∧ o + 37 ≤ u) ∧ (σ (o + 31) s = 2 → R (a + 177 + s) 0 = none ∧ ∃ h, R (a + 177 + s) 2 = some h ∧ pT (T h) ∧ kdT (T h) = σ (o + 35) s ∧ (h = a + 182 ∨ o + 37 ≤ h) ∧ (hlv σ o s → h = A (σ (o + 34) s)) ∧ (¬ hlv σ o s → I h 5 = 1))
/-- a resolution's object -/
def reE (T : Nat → Nat) (N : Nat → Int) (I : Nat → Int → Int) (R : Nat → Int → Option Nat) (a o q : Nat) (p : List Int × List Int) : Prop := (T q = 7 ∧ o + 37 ≤ q) ∧ ∃ u v, (R q 0 = some u ∧ R q 1 = some v) ∧ (o + 37 ≤ u ∧ o + 37 ≤ v) ∧ (T u = 13 ∧ N u = p.1.length ∧ seg (I u) 0 p.1.length = p.1) ∧ (T v = 13 ∧ N v = p.2.length ∧ seg (I v) 0 p.2.length = p.2) ∧ ∀ s : Nat, s < 5 → R (a + 177 + s) 0 ≠ some u ∧ R (a + 177 + s) 0 ≠ some v
def kpL (σ : Nat → Int → Int) (o : Nat) : List (List Int × List Int) := (List.range (σ o 35).toNat).map (fun k : Nat => (seg (σ (o + 24)) (51 * (k : Int)) (51 * (k : Int) + σ (o + 25) k), seg (σ (o + 26)) (6 * (k : Int)) (6 * (k : Int) + σ (o + 27) k)))
def thR (σ : Nat → Int → Int) (o : Nat) : List Int := (path (σ (o + 2)) (σ o 42)).filter (fun y => decide (y ∉ path (σ (o + 2)) (σ (o + 7) (σ o 41))))
/-- a replay that has stopped -/
def rpK (T : Nat → Nat) (N : Nat → Int) (I : Nat → Int → Int) (R : Nat → Int → Option Nat) (a o : Nat) (σ : Nat → Int → Int) (A : Int → Nat) : Prop := (I (a + 183) 1 = σ o 41 ∧ I (a + 183) 5 = σ o 46 - 1 - σ o 47 ∧ I (a + 183) 7 = (thR σ o).length ∧ I (a + 183) 10 = σ o 44) ∧ (R (a + 183) 2 = some (A (σ o 42)) ∧ R (a + 183) 3 = some (A (σ o 43))) ∧ (∀ k, 0 ≤ k → k < σ o 46 → R (a + 184) k = some (A (σ (o + 28) (σ o 46 - 1 - k)))) ∧ (∀ (k : Nat) (v : Int), (thR σ o)[k]? = some v → R (a + 185) k = some (A v)) ∧ (∀ k, 0 ≤ k → k < 4 → I (a + 187) k = σ (o + 30) k) ∧ I (a + 183) 13 = (kpL σ o).length ∧ (kpL σ o).length ≤ 8 ∧ ∀ (k : Nat) (p : List Int × List Int), (kpL σ o)[k]? = some p → ∃ q, R (a + 188) k = some q ∧ reE T N I R a o q p

def RelA (G : ax_G) (T : Nat → Nat) (N : Nat → Int) (I : Nat → Int → Int) (R : Nat → Int → Option Nat) (z a o : Nat) (σ : Nat → Int → Int) (A w : Int → Nat) : Prop := (fxS G T N R z a o) ∧ (∀ j : Nat, j < 100 → I (a + 176) j = sgn j) ∧ (I a 2 = σ o 2) ∧ (I (a + 1) 0 = σ o 1) ∧ (I a 11 = σ o 0) ∧ (cmS T N I R A w (σ o 2) (σ (o + 2))) ∧ (∀ c, 0 ≤ c → c < σ o 2 → R (a + 2) c = some (A c) ∧ kdT (T (A c)) = σ (o + 1) c ∧ R (A c) 0 = some (a + 1) ∧ (R (A c) 3 = (if σ (o + 3) c = -9 then none else some (A (σ (o + 3) c))) ∧ (σ (o + 3) c = -9 ∨ (0 ≤ σ (o + 3) c ∧ σ (o + 3) c < c))) ∧ I (A c) 5 = 0 ∧ (N (w c) = σ (o + 6) c ∧ seg (I (w c)) 0 (σ (o + 6) c) = rowL σ o c) ∧ (A c = a + 182 ∨ o + 37 ≤ A c) ∧ (w c = G.2.2.2.2.1 ∨ o + 37 ≤ w c)) ∧ (∀ b, 0 ≤ b → b < 4 → R (a + 3) b = some (A (σ (o + 7) b))) ∧ (∀ s : Nat, s < 5 → slK T N I R a o σ A s) ∧ (∀ s : Nat, s < 5 → ∀ u, R (a + 177 + s) 0 = some u → (∀ c, 0 ≤ c → c < σ o 2 → w c ≠ u) ∧ ∀ t : Nat, t < 5 → t ≠ s → R (a + 177 + t) 0 ≠ some u) ∧ (I (a + 5) 1 = (rsL σ o).length ∧ (rsL σ o).length ≤ 8 ∧ ∀ (k : Nat) (p : List Int × List Int), (rsL σ o)[k]? = some p → ∃ q, R (a + 6) k = some q ∧ reE T N I R a o q p) ∧ (r7 T R (a + 6) ∧ r7 T R (a + 188)) ∧ (∀ k, 0 ≤ k → k < 4 → I (a + 186) k = σ (o + 29) k) ∧ (I (a + 183) 8 = σ o 40) ∧ (σ o 40 ≠ 0 → rpK T N I R a o σ A)
theorem rl_fx {G : ax_G} {T : Nat → Nat} {N : Nat → Int} {I : Nat → Int → Int} {R : Nat → Int → Option Nat} {z a o : Nat} {σ : Nat → Int → Int} {A w : Int → Nat} (h : RelA G T N I R z a o σ A w) : fxS G T N R z a o := h.1
theorem rl_sg {G : ax_G} {T : Nat → Nat} {N : Nat → Int} {I : Nat → Int → Int} {R : Nat → Int → Option Nat} {z a o : Nat} {σ : Nat → Int → Int} {A w : Int → Nat} (h : RelA G T N I R z a o σ A w) : ∀ j : Nat, j < 100 → I (a + 176) j = sgn j := h.2.1
theorem rl_n {G : ax_G} {T : Nat → Nat} {N : Nat → Int} {I : Nat → Int → Int} {R : Nat → Int → Option Nat} {z a o : Nat} {σ : Nat → Int → Int} {A w : Int → Nat} (h : RelA G T N I R z a o σ A w) : I a 2 = σ o 2 := h.2.2.1
theorem rl_t {G : ax_G} {T : Nat → Nat} {N : Nat → Int} {I : Nat → Int → Int} {R : Nat → Int → Option Nat} {z a o : Nat} {σ : Nat → Int → Int} {A w : Int → Nat} (h : RelA G T N I R z a o σ A w) : I (a + 1) 0 = σ o 1 := h.2.2.2.1
theorem rl_f {G : ax_G} {T : Nat → Nat} {N : Nat → Int} {I : Nat → Int → Int} {R : Nat → Int → Option Nat} {z a o : Nat} {σ : Nat → Int → Int} {A w : Int → Nat} (h : RelA G T N I R z a o σ A w) : I a 11 = σ o 0 := h.2.2.2.2.1
theorem rl_cs {G : ax_G} {T : Nat → Nat} {N : Nat → Int} {I : Nat → Int → Int} {R : Nat → Int → Option Nat} {z a o : Nat} {σ : Nat → Int → Int} {A w : Int → Nat} (h : RelA G T N I R z a o σ A w) : cmS T N I R A w (σ o 2) (σ (o + 2)) := h.2.2.2.2.2.1
theorem rl_cc {G : ax_G} {T : Nat → Nat} {N : Nat → Int} {I : Nat → Int → Int} {R : Nat → Int → Option Nat} {z a o : Nat} {σ : Nat → Int → Int} {A w : Int → Nat} (h : RelA G T N I R z a o σ A w) : ∀ c, 0 ≤ c → c < σ o 2 → R (a + 2) c = some (A c) ∧ kdT (T (A c)) = σ (o + 1) c ∧ R (A c) 0 = some (a + 1) ∧ (R (A c) 3 = (if σ (o + 3) c = -9 then none else some (A (σ (o + 3) c))) ∧ (σ (o + 3) c = -9 ∨ (0 ≤ σ (o + 3) c ∧ σ (o + 3) c < c))) ∧ I (A c) 5 = 0 ∧ (N (w c) = σ (o + 6) c ∧ seg (I (w c)) 0 (σ (o + 6) c) = rowL σ o c) ∧ (A c = a + 182 ∨ o + 37 ≤ A c) ∧ (w c = G.2.2.2.2.1 ∨ o + 37 ≤ w c) := h.2.2.2.2.2.2.1
theorem rl_tp {G : ax_G} {T : Nat → Nat} {N : Nat → Int} {I : Nat → Int → Int} {R : Nat → Int → Option Nat} {z a o : Nat} {σ : Nat → Int → Int} {A w : Int → Nat} (h : RelA G T N I R z a o σ A w) : ∀ b, 0 ≤ b → b < 4 → R (a + 3) b = some (A (σ (o + 7) b)) := h.2.2.2.2.2.2.2.1
theorem rl_sl {G : ax_G} {T : Nat → Nat} {N : Nat → Int} {I : Nat → Int → Int} {R : Nat → Int → Option Nat} {z a o : Nat} {σ : Nat → Int → Int} {A w : Int → Nat} (h : RelA G T N I R z a o σ A w) : ∀ s : Nat, s < 5 → slK T N I R a o σ A s := h.2.2.2.2.2.2.2.2.1
theorem rl_sd {G : ax_G} {T : Nat → Nat} {N : Nat → Int} {I : Nat → Int → Int} {R : Nat → Int → Option Nat} {z a o : Nat} {σ : Nat → Int → Int} {A w : Int → Nat} (h : RelA G T N I R z a o σ A w) : ∀ s : Nat, s < 5 → ∀ u, R (a + 177 + s) 0 = some u → (∀ c, 0 ≤ c → c < σ o 2 → w c ≠ u) ∧ ∀ t : Nat, t < 5 → t ≠ s → R (a + 177 + t) 0 ≠ some u := h.2.2.2.2.2.2.2.2.2.1
theorem rl_rs {G : ax_G} {T : Nat → Nat} {N : Nat → Int} {I : Nat → Int → Int} {R : Nat → Int → Option Nat} {z a o : Nat} {σ : Nat → Int → Int} {A w : Int → Nat} (h : RelA G T N I R z a o σ A w) : I (a + 5) 1 = (rsL σ o).length ∧ (rsL σ o).length ≤ 8 ∧ ∀ (k : Nat) (p : List Int × List Int), (rsL σ o)[k]? = some p → ∃ q, R (a + 6) k = some q ∧ reE T N I R a o q p := h.2.2.2.2.2.2.2.2.2.2.1
theorem rl_r7 {G : ax_G} {T : Nat → Nat} {N : Nat → Int} {I : Nat → Int → Int} {R : Nat → Int → Option Nat} {z a o : Nat} {σ : Nat → Int → Int} {A w : Int → Nat} (h : RelA G T N I R z a o σ A w) : r7 T R (a + 6) ∧ r7 T R (a + 188) := h.2.2.2.2.2.2.2.2.2.2.2.1
theorem rl_fg {G : ax_G} {T : Nat → Nat} {N : Nat → Int} {I : Nat → Int → Int} {R : Nat → Int → Option Nat} {z a o : Nat} {σ : Nat → Int → Int} {A w : Int → Nat} (h : RelA G T N I R z a o σ A w) : ∀ k, 0 ≤ k → k < 4 → I (a + 186) k = σ (o + 29) k := h.2.2.2.2.2.2.2.2.2.2.2.2.1
theorem rl_st {G : ax_G} {T : Nat → Nat} {N : Nat → Int} {I : Nat → Int → Int} {R : Nat → Int → Option Nat} {z a o : Nat} {σ : Nat → Int → Int} {A w : Int → Nat} (h : RelA G T N I R z a o σ A w) : I (a + 183) 8 = σ o 40 := h.2.2.2.2.2.2.2.2.2.2.2.2.2.1
theorem rl_rp {G : ax_G} {T : Nat → Nat} {N : Nat → Int} {I : Nat → Int → Int} {R : Nat → Int → Option Nat} {z a o : Nat} {σ : Nat → Int → Int} {A w : Int → Nat} (h : RelA G T N I R z a o σ A w) : σ o 40 ≠ 0 → rpK T N I R a o σ A := h.2.2.2.2.2.2.2.2.2.2.2.2.2.2

/-- only rows for passing use have changed -/
def scK (T : Nat → Nat) (N : Nat → Int) (a : Nat) (I J : Nat → Int → Int) (R S : Nat → Int → Option Nat) : Prop := (∀ q, (q < a + 5 ∨ (a + 176 ≤ q ∧ q < a + 189) ∨ a + 197 ≤ q) → J q = I q ∧ S q = R q) ∧ (J (a + 5) 1 = I (a + 5) 1 ∧ S (a + 6) = R (a + 6)) ∧ (mgT T N R (a + 5) → mgT T N S (a + 5)) ∧ (mtT T N R (a + 98) → mtT T N S (a + 98)) ∧ (mtT T N R (a + 137) → mtT T N S (a + 137)) ∧ (rpT T N R (a + 189) (a + 192) → rpT T N S (a + 189) (a + 192)) ∧ S (a + 189) 0 = R (a + 189) 0
theorem scK.rf {T : Nat → Nat} {N : Nat → Int} {a : Nat} {I : Nat → Int → Int} {R : Nat → Int → Option Nat} : scK T N a I I R R := ⟨fun _ _ => ⟨rfl, rfl⟩, ⟨rfl, rfl⟩, id, id, id, id, rfl⟩
theorem scK.tr {T : Nat → Nat} {N : Nat → Int} {a : Nat} {I J K : Nat → Int → Int} {R S U : Nat → Int → Option Nat} (h : scK T N a I J R S) (k : scK T N a J K S U) : scK T N a I K R U := by
  obtain ⟨h1, ⟨h2, h3⟩, h4, h5, h6, h7, h8⟩ := h
  obtain ⟨k1, ⟨k2, k3⟩, k4, k5, k6, k7, k8⟩ := k
  exact ⟨fun q hq => ⟨(k1 q hq).1.trans (h1 q hq).1, (k1 q hq).2.trans (h1 q hq).2⟩, ⟨k2.trans h2, k3.trans h3⟩, fun x => k4 (h4 x), fun x => k5 (h5 x), fun x => k6 (h6 x), fun x => k7 (h7 x), k8.trans h8⟩
theorem reE_fr {T : Nat → Nat} {N : Nat → Int} {I J : Nat → Int → Int} {R S : Nat → Int → Option Nat} {a o q : Nat} {p : List Int × List Int} (h : reE T N I R a o q p) (hJ : ∀ u, o + 37 ≤ u → T u = 13 → (∀ s : Nat, s < 5 → R (a + 177 + s) 0 ≠ some u) → J u = I u ∧ ∀ s : Nat, s < 5 → S (a + 177 + s) 0 ≠ some u) (hS : ∀ q, o + 37 ≤ q → T q = 7 → S q = R q) : reE T N J S a o q p := by
  obtain ⟨⟨h1, h2⟩, u, v, ⟨h3, h4⟩, ⟨h5, h6⟩, ⟨h7, h8, h9⟩, ⟨h10, h11, h12⟩, h13⟩ := h
  obtain ⟨ju, su⟩ := hJ u h5 h7 (fun s hs => (h13 s hs).1)
  obtain ⟨jv, sv⟩ := hJ v h6 h10 (fun s hs => (h13 s hs).2)
  exact ⟨⟨h1, h2⟩, u, v, by rw [hS q h2 h1]; exact ⟨h3, h4⟩, ⟨h5, h6⟩, ⟨h7, h8, by rw [ju]; exact h9⟩, ⟨h10, h11, by rw [jv]; exact h12⟩, fun s hs => ⟨su s hs, sv s hs⟩⟩
theorem rl_sc {G : ax_G} {T : Nat → Nat} {N : Nat → Int} {I : Nat → Int → Int} {R : Nat → Int → Option Nat} {z a o : Nat} {σ : Nat → Int → Int} {A w : Int → Nat} {J : Nat → Int → Int} {S : Nat → Int → Option Nat} (h : RelA G T N I R z a o σ A w) (hk : scK T N a I J R S) : RelA G T N J S z a o σ A w := by
  have hx := rl_fx h
  have b0 := fx_b0 hx
  have b1 := fx_b1 hx
  have hnl := (fx_nl hx).2
  obtain ⟨h1, ⟨h2, h3⟩, h4, h5, h6, h7, h8⟩ := hk
  have ei : ∀ q, (q < a + 5 ∨ (a + 176 ≤ q ∧ q < a + 189) ∨ a + 197 ≤ q) → J q = I q := fun q hq => (h1 q hq).1
  have er : ∀ q, (q < a + 5 ∨ (a + 176 ≤ q ∧ q < a + 189) ∨ a + 197 ≤ q) → S q = R q := fun q hq => (h1 q hq).2
  have cc := rl_cc h
  have cs := rl_cs h
  have hx' : fxS G T N S z a o := fx_fr hx (er a (by omega)) (er _ (by omega)) (h4 (fx_mg hx).2) (h5 (fx_ch hx).2) (h6 (fx_co hx).2) (rpT_fr (fx_cu hx).2.1 (fun k _ _ => by rw [er (a + 183) (by omega)])) (by rw [er (a + 183) (by omega)]) (h7 (fx_re hx).2.1) h8
  have eE : ∀ q p, reE T N I R a o q p → reE T N J S a o q p := fun q p hq => reE_fr hq (fun u hu _ hs => ⟨ei u (by omega), fun s h9 => by rw [er _ (by omega)]; exact hs s h9⟩) (fun q hq _ => er q (by omega))
  have eA : ∀ c, 0 ≤ c → c < σ o 2 → J (A c) = I (A c) ∧ S (A c) = R (A c) ∧ J (w c) = I (w c) := fun c a1 a2 => by
    obtain ⟨-, -, -, -, -, -, c7, c8⟩ := cc c a1 a2
    exact ⟨ei _ (by omega), er _ (by omega), ei _ (by omega)⟩
  have hcs : cmS T N J S A w (σ o 2) (σ (o + 2)) := ⟨cs.1, fun c a1 a2 => by
    obtain ⟨e1, e2, e3⟩ := eA c a1 a2
    obtain ⟨c1, c2, c3, c4, c5⟩ := cs.2 c a1 a2
    rw [e1, e2]
    exact ⟨c1, c2, c3, c4, rwS_fr c5 e3⟩⟩
  refine ⟨hx', fun j hj => by rw [ei (a + 176) (by omega)]; exact rl_sg h j hj, by rw [ei a (by omega)]; exact rl_n h, by rw [ei (a + 1) (by omega)]; exact rl_t h, by rw [ei a (by omega)]; exact rl_f h, hcs, fun c a1 a2 => ?_, fun b a1 a2 => by rw [er (a + 3) (by omega)]; exact rl_tp h b a1 a2, fun s hs => ?_, fun s hs u hu => ?_, ⟨by rw [h2]; exact (rl_rs h).1, (rl_rs h).2.1, fun k p hp => ?_⟩, ⟨?_, ?_⟩, fun k a1 a2 => by rw [ei (a + 186) (by omega)]; exact rl_fg h k a1 a2, by rw [ei (a + 183) (by omega)]; exact rl_st h, fun h40 => ?_⟩
  · obtain ⟨e1, e2, e3⟩ := eA c a1 a2
    rw [er (a + 2) (by omega), e1, e2, e3]
    exact cc c a1 a2
  · have k := rl_sl h s hs
    unfold slK at *
    rw [ei (a + 177 + s) (by omega), er (a + 177 + s) (by omega)]
    refine ⟨k.1, k.2.1, k.2.2.1, fun h9 => ?_, fun h9 => ?_⟩
    · obtain ⟨x1, x2, u, x3, x4, x5, x6, x7⟩ := k.2.2.2.1 h9
      exact ⟨x1, x2, u, x3, x4, x5, by rw [ei u (by omega)]; exact x6, x7⟩
    · obtain ⟨x1, u, x3, x4, x5, x6, x7, x8⟩ := k.2.2.2.2 h9
      exact ⟨x1, u, x3, x4, x5, x6, x7, fun h8 => by rw [ei u (by omega)]; exact x8 h8⟩
  · rw [er (a + 177 + s) (by omega)] at hu
    obtain ⟨x1, x2⟩ := rl_sd h s hs u hu
    exact ⟨x1, fun t ht hne => by rw [er (a + 177 + t) (by omega)]; exact x2 t ht hne⟩
  · obtain ⟨q, x1, x2⟩ := (rl_rs h).2.2 k p hp
    exact ⟨q, by rw [h3]; exact x1, eE q p x2⟩
  · intro j v a1 a2 hv
    rw [h3] at hv
    exact (rl_r7 h).1 j v a1 a2 hv
  · intro j v a1 a2 hv
    rw [er (a + 188) (by omega)] at hv
    exact (rl_r7 h).2 j v a1 a2 hv
  · obtain ⟨k1, k2, k3, k4, k5, k6, k7, k8⟩ := rl_rp h h40
    unfold rpK
    rw [ei (a + 183) (by omega), ei (a + 187) (by omega), er (a + 183) (by omega), er (a + 184) (by omega), er (a + 185) (by omega), er (a + 188) (by omega)]
    refine ⟨k1, k2, k3, k4, k5, k6, k7, fun k p hp => ?_⟩
    obtain ⟨q, x1, x2⟩ := k8 k p hp
    exact ⟨q, x1, eE q p x2⟩
theorem rl_re {G : ax_G} {T : Nat → Nat} {N : Nat → Int} {I : Nat → Int → Int} {R : Nat → Int → Option Nat} {z a o : Nat} {σ : Nat → Int → Int} {A w : Int → Nat} (h : RelA G T N I R z a o σ A w) : reS T N I R (a + 5) (rsL σ o) := by
  have b1 := fx_b1 (rl_fx h)
  refine ⟨(rl_rs h).1, (rl_rs h).2.1, fun k p hp => ?_⟩
  obtain ⟨q, x1, ⟨h1, h2⟩, u, v, ⟨h3, h4⟩, ⟨h5, h6⟩, ⟨h7, h8, h9⟩, ⟨h10, h11, h12⟩, -⟩ := (rl_rs h).2.2 k p hp
  exact ⟨q, x1, ⟨h1, by omega⟩, u, v, h3, h4, ⟨h7, h8, h9, by omega⟩, h10, h11, h12, by omega⟩
/-- what a merging leaves -/
theorem sc_mg {T : Nat → Nat} {N : Nat → Int} {I J : Nat → Int → Int} {R S : Nat → Int → Option Nat} {a b1 b2 b3 : Nat} {w : Int} {s : List Int × Int × List Gp} (h : mgV I J R S (a + 5) b1 b2 b3 w s) : scK T N a I J R S := by
  obtain ⟨⟨h1, h2, h3, h4⟩, -, -⟩ := h
  refine ⟨fun q hq => ⟨h1 q (by omega), h2 q (by omega)⟩, ⟨h4, h3.1 (a + 5 + 1) (by omega) (by omega)⟩, fun k => mgT_fr k h3, fun k => mtT_fr k (fun q a1 a2 => h2 q (by omega)), fun k => mtT_fr k (fun q a1 a2 => h2 q (by omega)), fun k => rpT_fr k (fun j _ _ => by rw [h2 (a + 189) (by omega)]), by rw [h2 (a + 189) (by omega)]⟩
theorem sc_rd {T : Nat → Nat} {N : Nat → Int} {I J : Nat → Int → Int} {R S : Nat → Int → Option Nat} {a m : Nat} (hm : m = a + 98 ∨ m = a + 137) (h : mcF I J R S m) : scK T N a I J R S := by
  obtain ⟨h1, h2⟩ := h
  exact ⟨fun q hq => ⟨h1 q (by omega), h2 q (by omega)⟩, ⟨by rw [h1 (a + 5) (by omega)], h2 (a + 6) (by omega)⟩, fun k => mgT_le (z := a + 98) k (fun _ _ => rfl) (fun _ _ => rfl) (fun q hq => h2 q (by omega)) (by omega), fun k => mtT_fr k (fun q a1 a2 => h2 q (by omega)), fun k => mtT_fr k (fun q a1 a2 => h2 q (by omega)), fun k => rpT_fr k (fun j _ _ => by rw [h2 (a + 189) (by omega)]), by rw [h2 (a + 189) (by omega)]⟩

