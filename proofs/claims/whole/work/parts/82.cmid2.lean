/-! THE CLASS: in the midst of a replay: a commit melts, a commit is made -/
theorem pth_cg {p q : Int → Int} {m : Int} (hp : PW p m) (h : ∀ c, 0 ≤ c → c < m → q c = p c) : ∀ (n : Nat) (x : Int), x < m → pth q n x = pth p n x := by
  intro n
  induction n with
  | zero => intro x _; rfl
  | succ n ih =>
    intro x hx
    simp only [pth]
    by_cases h0 : x < 0
    · rw [if_pos h0, if_pos h0]
    · rw [if_neg h0, if_neg h0, h x (by omega) hx]
      congr 1
      by_cases hx0 : x = 0
      · have := hp.1
        rw [hx0]
        exact ih _ (by omega)
      · exact ih _ (by have := hp.2 x (by omega) hx; omega)
theorem path_cg {p q : Int → Int} {m : Int} (hp : PW p m) (h : ∀ c, 0 ≤ c → c < m → q c = p c) {x : Int} (hx : x < m) : path q x = path p x := pth_cg hp h _ x hx
theorem lay_rowL {σ : Nat → Int → Int} {o : Nat} {t : Int} {L : List Int} (hl : ∀ c, 0 ≤ σ (o + 6) c ∧ σ (o + 6) c ≤ 16) (hL : (L.length : Int) ≤ 16) : (∀ c, c ≠ t → rowL (layI σ o t L) o c = rowL σ o c) ∧ rowL (layI σ o t L) o t = L := by
  refine ⟨fun c hc => ?_, ?_⟩
  · unfold rowL
    rw [lay_s, if_neg hc]
    have := hl c
    refine seg_congr (fun j a1 a2 => ?_)
    show layI σ o t L (o + 5) (16 * c + j) = σ (o + 5) (16 * c + j)
    rw [lay_l, if_neg (by omega)]
  · unfold rowL
    rw [lay_s, if_pos rfl]
    refine Eq.trans ?_ (seg_lf L)
    refine seg_congr (fun j a1 a2 => ?_)
    show layI σ o t L (o + 5) (16 * t + j) = lf L j
    unfold layI
    rw [axf_in (by omega) (by omega)]
    congr 1
    omega
theorem Mid.melt {G : ax_G} {T : Nat → Nat} {N : Nat → Int} {I : Nat → Int → Int} {R : Nat → Int → Option Nat} {z a o : Nat} {σ : Nat → Int → Int} {A w : Int → Nat} {e : Int} (h : Mid G T N I R z a o σ A w e) (g : gI σ o) {t : Int} {r : Nat} {L : List Int} (ht : 0 ≤ t ∧ t < σ o 2) (hr : rwS T N I r) (hrL : N r = L.length ∧ seg (I r) 0 (L.length : Int) = L) (hL : (L.length : Int) ≤ 16) (hro : o + 37 ≤ r) (hrs : ∀ s : Nat, s < 5 → R (a + 177 + s) 0 ≠ some r) : Mid G T N I (ax_u R (A t) 4 (some r)) z a o (layI σ o t L) A (fun c => if c = t then r else w c) e := by
  have hx := rl_fx h.1
  have b1 := fx_b1 hx
  have hl := g.1.2.1.2
  obtain ⟨q1, q2⟩ := lay_rowL (t := t) hl hL
  have lr : ∀ q, q ≠ o + 5 → q ≠ o + 6 → layI σ o t L q = σ q := fun q h1 h2 => lay_row h1 h2
  have ht2 : 0 ≤ t ∧ t < ax_u σ o 40 e o 2 := by rw [e_fld (by decide)]; exact ht
  have cs := rl_cs h.1
  have at_ := (rl_cc h.1 t ht2.1 ht2.2).2.2.2.2.2.2.1
  have pt_ := (cs.2 t ht2.1 ht2.2).1
  have er : ∀ q, q ≠ A t → ax_u R (A t) 4 (some r) q = R q := fun q hq => axu_row hq
  have eE : ∀ q p, reE T N I R a o q p → reE T N I (ax_u R (A t) 4 (some r)) a o q p := fun q p hq => reE_up hq (fun _ _ => ⟨rfl, rfl⟩) (fun u hu _ hn => ⟨rfl, fun s hs => by rw [er _ (by omega)]; exact hn s hs⟩) (fun q hq h7 => er q (fun e9 => by rw [e9] at h7; rcases pt_ with e8 | e8 | e8 <;> omega))
  have hK : rpK T N I (ax_u R (A t) 4 (some r)) a o (layI σ o t L) A := rpK_up h.2 g.2.2 g.1.2.2.1 eE (fun _ _ => rfl) rfl (er _ (by omega)) (er _ (by omega)) (er _ (by omega)) (er _ (by omega)) (fun k _ => by rw [lr o (by omega) (by omega)]) (lr _ (by omega) (by omega)) (lr _ (by omega) (by omega)) (by unfold thR; rw [lr _ (by omega) (by omega), lr _ (by omega) (by omega), lr o (by omega) (by omega)]) (by unfold kpL; rw [lr (o + 24) (by omega) (by omega), lr (o + 25) (by omega) (by omega), lr (o + 26) (by omega) (by omega), lr (o + 27) (by omega) (by omega), lr o (by omega) (by omega)]) (fun _ _ _ => rfl)
  refine ⟨rl_ml h.1 ht2 hr hrL hro hrs rfl (fun k => ?_) (fun q h1 h2 h3 => by rw [e_row h1, e_row h1]; exact lr q h2 h3) (fun c hc => by rw [e_row (by omega), e_row (by omega), lay_s, if_neg hc]) (by rw [e_row (by omega), lay_s, if_pos rfl]) (fun c _ _ hc => by rw [e_rowL, e_rowL]; exact q1 c hc) (by rw [e_rowL]; exact q2) (fun _ => e_rpK.mpr hK), hK⟩
  by_cases hk : k = 40
  · rw [hk, axu_s, axu_s]
  · rw [e_fld hk, e_fld hk, lr o (by omega) (by omega)]
theorem Mid.made {G : ax_G} {T : Nat → Nat} {N : Nat → Int} {I : Nat → Int → Int} {R : Nat → Int → Option Nat} {z a o : Nat} {σ : Nat → Int → Int} {A w : Int → Nat} {e : Int} (h : Mid G T N I R z a o σ A w e) (g9 : gI σ o) (hMS : miS σ o) {k p g : Int} {r : Nat} {L : List Int} (hm : σ o 2 < 24) (hk : 0 ≤ k ∧ k ≤ 2) (hp : 0 ≤ p ∧ p < σ o 2) (hg : 0 ≤ g ∧ g < σ o 2) (hr : rwS T N I r) (hrL : N r = L.length ∧ seg (I r) 0 (L.length : Int) = L) (hL : (L.length : Int) ≤ 16) (hro : o + 37 ≤ r) (hrs : ∀ s : Nat, s < 5 → R (a + 177 + s) 0 ≠ some r) : Mid G (ax_n T z (tgK k)) N (mkI I z a k (some (A g))) (ax_u (mkS R z a (some (A p)) (some r) (some (A g))) (a + 2) (I a 2) (some z)) (z + 1) a o (layI (mdI σ o k p g) o (σ o 2) L) (fun c => if c = σ o 2 then z else A c) (fun c => if c = σ o 2 then r else w c) e := by
  have hx := rl_fx h.1
  have b1 := fx_b1 hx
  have b2 := fx_b2 hx
  have tz0 := fx_tz hx
  have hl := g9.1.2.1.2
  have hPWs := g9.1.2.2.1
  have hC1 := g9.1.1
  have htip := g9.1.2.2.2.2.1
  obtain ⟨X, hX⟩ : ∃ X, X = layI (mdI σ o k p g) o (σ o 2) L := ⟨_, rfl⟩
  rw [← hX]
  obtain ⟨⟨q1, q2, q3, q4⟩, ⟨q5, q6, q7, q8, q9, q10⟩, q11, q12, q13⟩ := md_x (k := k) (p := p) (g := g) (n := (L.length : Int)) (F := fun j => lf L (j - 16 * σ o 2)) hl (by omega) (X := X) hX
  have q12' : rowL X o (σ o 2) = L := by
    rw [q12]
    refine Eq.trans ?_ (seg_lf L)
    exact seg_shift (by omega) (fun j a1 a2 => by congr 1; omega)
  have m0 : ax_u σ o 40 e o 2 = σ o 2 := e_fld (by decide)
  have hPW : PW (X (o + 2)) (σ o 2 + 1) := by
    refine ⟨?_, fun x x0 x1 => ?_⟩
    · rw [(q5 0 (by omega)).2.1]; exact hPWs.1
    · by_cases ex : x = σ o 2
      · rw [ex, q7]; exact hp
      · rw [(q5 x ex).2.1]; exact hPWs.2 x x0 (by omega)
  have hT9 : ∀ x, T x ≠ 99 → ax_n T z (tgK k) x = T x ∧ N x = N x := fun x hx9 => ⟨axn_a (by have := tz0 x hx9; omega), rfl⟩
  have ei : ∀ x, x < z → x ≠ a → x ≠ a + 1 → mkI I z a k (some (A g)) x = I x := fun x h1 h2 h3 => mkI_o (by omega) h2 h3
  have er : ∀ x, x < z → x ≠ a + 2 → ax_u (mkS R z a (some (A p)) (some r) (some (A g))) (a + 2) (I a 2) (some z) x = R x := fun x h1 h2 => by rw [axu_row h2]; exact mkS_o (by omega)
  have eE : ∀ x l, reE T N I R a o x l → reE (ax_n T z (tgK k)) N (mkI I z a k (some (A g))) (ax_u (mkS R z a (some (A p)) (some r) (some (A g))) (a + 2) (I a 2) (some z)) a o x l := fun x l hl9 => reE_up hl9 hT9 (fun u hu h13 hs => ⟨ei u (tz0 u (by omega)) (by omega) (by omega), fun s hs9 => by rw [er _ (by omega) (by omega)]; exact hs s hs9⟩) (fun x hx9 h7 => er x (tz0 x (by omega)) (by omega))
  have hcg : ∀ c, c < σ o 2 → path (X (o + 2)) c = path (σ (o + 2)) c := fun c hc => path_cg hPWs (fun d d0 d1 => (q5 d (by omega)).2.1) hc
  have hK : rpK (ax_n T z (tgK k)) N (mkI I z a k (some (A g))) (ax_u (mkS R z a (some (A p)) (some r) (some (A g))) (a + 2) (I a 2) (some z)) a o X (fun c => if c = σ o 2 then z else A c) := by
    have hrp := g9.2.2
    refine rpK_up h.2 hrp hPWs eE (fun j _ => by rw [ei (a + 183) (by omega) (by omega) (by omega)]) (ei _ (by omega) (by omega) (by omega)) (er _ (by omega) (by omega)) (er _ (by omega) (by omega)) (er _ (by omega) (by omega)) (er _ (by omega) (by omega)) (fun j hj => q4 j (by omega) (by omega) (by omega)) (q13 _ (by omega)) (q13 _ (by omega)) ?_ (by unfold kpL; rw [q13 (o + 24) (by omega), q13 (o + 25) (by omega), q13 (o + 26) (by omega), q13 (o + 27) (by omega), q4 35 (by decide) (by decide) (by decide)]) (fun c c0 c1 => if_neg (by omega))
    unfold thR
    rw [q13 (o + 7) (by omega), q4 42 (by decide) (by decide) (by decide), q4 41 (by decide) (by decide) (by decide), hcg _ hrp.2.2.2.1.2, hcg _ (htip _ hrp.2.2.2.2.1.1 hrp.2.2.2.2.1.2).2]
  have er0 : ∀ q, q ≠ o → ax_u σ o 40 e q = σ q := fun q hq => e_row hq
  have xr0 : ∀ q, q ≠ o → ax_u X o 40 e q = X q := fun q hq => e_row hq
  have h2 := rl_md (k := k) (g := g) (X := ax_u X o 40 e) (r := r) (p := some (A p)) (q := some (A g)) (L := L) h.1 (e_miS hMS) (by rw [m0]; omega) hk (Or.inr (by rw [m0]; exact hg)) (by rw [if_neg (by omega)]) (by rw [m0, if_neg (by omega), xr0 _ (by omega), q7]) (by rw [m0, xr0 _ (by omega)]; exact hPW) hr hrL (Or.inr hro) hrs (by rw [m0, e_fld (by decide)]; exact q1) (by rw [e_fld (by decide), e_fld (by decide)]; exact q2) (fun j hj => by
    by_cases h40 : j = 40
    · rw [h40, axu_s, axu_s]
    · rw [e_fld h40, e_fld h40]; exact q4 j (by omega) (by omega) (by omega)) (fun c hc => by rw [m0] at hc; rw [xr0 _ (by omega), er0 _ (by omega)]; exact (q5 c hc).1) (by rw [m0, xr0 _ (by omega)]; exact q6) (fun c hc => by rw [m0] at hc; rw [xr0 _ (by omega), er0 _ (by omega)]; exact (q5 c hc).2.1) (fun c hc => by rw [m0] at hc; rw [xr0 _ (by omega), er0 _ (by omega)]; exact (q5 c hc).2.2.1) (by rw [m0, xr0 _ (by omega)]; exact q8) (fun c hc => by rw [m0] at hc; rw [xr0 _ (by omega), er0 _ (by omega)]; exact (q5 c hc).2.2.2.1) (by rw [m0, xr0 _ (by omega), e_fld (by decide)]; exact q9) (fun c hc => by rw [m0] at hc; rw [xr0 _ (by omega), er0 _ (by omega)]; exact (q5 c hc).2.2.2.2) (by rw [m0, xr0 _ (by omega)]; exact q10) (fun c c0 c1 => by rw [m0] at c1; rw [e_rowL, e_rowL]; exact q11 c (by omega)) (by rw [m0, e_rowL]; exact q12') (fun x hx9 _ => by rw [xr0 x (by omega), er0 x (by omega)]; exact q13 x hx9) (fun d d0 d1 => by rw [m0, er0 _ (by omega)]; have := htip d d0 d1; omega) (fun j j0 j1 => by rw [xr0 _ (by omega), er0 _ (by omega), q13 _ (by omega)]) (fun _ => by rw [m0]; exact e_rpK.mpr hK)
  rw [m0] at h2
  exact ⟨h2, hK⟩

