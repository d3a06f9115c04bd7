/-! THE CLASS: resolutions are recorded and forgotten; the numbers of a path -/
theorem axTakes_7 : axTakes RX7 7 := ⟨_, _, _, _, ck_X7, Or.inl rfl⟩
theorem axn_u {I : Nat → Int → Int} {z : Nat} {row : Int → Int} {j v : Int} : ax_u (ax_n I z row) z j v = ax_n I z (fun k => if k = j then v else row k) := by
  funext q k
  unfold ax_u ax_n
  by_cases hq : q = z
  · subst hq
    simp
  · simp [hq]
theorem seg_map {f : Int → Int} {g : Int → Int} {i j : Int} : (seg g i j).map f = seg (fun k => f (g k)) i j := by
  unfold seg
  simp [Function.comp]
theorem mtT_le {T T1 : Nat → Nat} {N N1 : Nat → Int} {R R1 : Nat → Int → Option Nat} {m z : Nat} (h : mtT T N R m) (eT : ∀ q, q < z → T1 q = T q) (eN : ∀ q, q < z → N1 q = N q) (eR : ∀ q, q < z → R1 q = R q) (hz : m + 39 ≤ z) : mtT T1 N1 R1 m := by
  obtain ⟨h1, ⟨h2, h3, h4⟩, ⟨h5, h6, h7⟩, ⟨h8, h9, h10⟩, ⟨h11, h12, h13⟩, h14⟩ := h
  unfold mtT
  rw [eT m (by omega), eR m (by omega), eT (m + 1) (by omega), eN (m + 1) (by omega), eT (m + 2) (by omega), eN (m + 2) (by omega), eT (m + 3) (by omega), eN (m + 3) (by omega), eT (m + 4) (by omega), eN (m + 4) (by omega), eR (m + 3) (by omega), eR (m + 4) (by omega)]
  refine ⟨h1, ⟨h2, h3, h4⟩, ⟨h5, h6, h7⟩, ⟨h8, h9, h10⟩, ⟨h11, h12, h13⟩, fun k hk => ?_⟩
  rw [eT (m + 5 + 2 * k) (by omega), eT (m + 6 + 2 * k) (by omega)]
  exact h14 k hk
theorem shT_le {T T1 : Nat → Nat} {N N1 : Nat → Int} {R R1 : Nat → Int → Option Nat} {s z : Nat} (h : shT T N R s) (eT : ∀ q, q < z → T1 q = T q) (eN : ∀ q, q < z → N1 q = N q) (eR : ∀ q, q < z → R1 q = R q) (hz : s + 3 ≤ z) : shT T1 N1 R1 s := by
  unfold shT at *
  rw [eT s (by omega), eR s (by omega), eT (s + 1) (by omega), eN (s + 1) (by omega), eT (s + 2) (by omega), eN (s + 2) (by omega)]
  exact h
theorem mgT_le {T T1 : Nat → Nat} {N N1 : Nat → Int} {R R1 : Nat → Int → Option Nat} {g z : Nat} (h : mgT T N R g) (eT : ∀ q, q < z → T1 q = T q) (eN : ∀ q, q < z → N1 q = N q) (eR : ∀ q, q < z → R1 q = R q) (hz : g + 93 ≤ z) : mgT T1 N1 R1 g := by
  obtain ⟨h1, h2, h3, ⟨h4, h4'⟩, ⟨h5, h5'⟩, h6, h7, h8, h9, h10, h11, ⟨h12, h12'⟩, h13, h13'⟩ := h
  unfold mgT
  rw [eR g (by omega), eT g (by omega), eT (g + 1) (by omega), eN (g + 1) (by omega), eT (g + 2) (by omega), eN (g + 2) (by omega), eT (g + 81) (by omega), eT (g + 82) (by omega), eT (g + 83) (by omega), eT (g + 84) (by omega), eT (g + 85) (by omega), eT (g + 86) (by omega)]
  exact ⟨h1, h2, h3, ⟨h4, mtT_le h4' eT eN eR (by omega)⟩, ⟨h5, mtT_le h5' eT eN eR (by omega)⟩, h6, h7, h8, h9, h10, h11, ⟨h12, shT_le h12' eT eN eR (by omega)⟩, h13, shT_le h13' eT eN eR (by omega)⟩
theorem mgT_f1 {T : Nat → Nat} {N : Nat → Int} {R S : Nat → Int → Option Nat} {g : Nat} (h : mgT T N R g) (e : ∀ q, q ≠ g + 1 → S q = R q) : mgT T N S g := by
  obtain ⟨h1, h2, h3, ⟨h4, h4'⟩, ⟨h5, h5'⟩, h6, h7, h8, h9, h10, h11, ⟨h12, h12'⟩, h13, h13'⟩ := h
  unfold mgT
  rw [e g (by omega)]
  exact ⟨h1, h2, h3, ⟨h4, mtT_fr h4' (fun q a b => e q (by omega))⟩, ⟨h5, mtT_fr h5' (fun q a b => e q (by omega))⟩, h6, h7, h8, h9, h10, h11, ⟨h12, shT_fr h12' (e _ (by omega))⟩, h13, shT_fr h13' (e _ (by omega))⟩
theorem reO_le {T T1 : Nat → Nat} {N N1 : Nat → Int} {I J : Nat → Int → Int} {R S : Nat → Int → Option Nat} {g a : Nat} {p : List Int × List Int} (h : reO T N I R g a p) (k : ∀ q, T q ≠ 99 → (q < g ∨ g + 93 ≤ q) → T1 q = T q ∧ N1 q = N q ∧ J q = I q ∧ S q = R q) : reO T1 N1 J S g a p := by
  obtain ⟨⟨h1, h2⟩, u, v, h3, h4, ⟨h5, h6, h7, h8⟩, h9, h10, h11, h12⟩ := h
  obtain ⟨a1, a2, a3, a4⟩ := k a (by omega) h2
  obtain ⟨u1, u2, u3, u4⟩ := k u (by omega) h8
  obtain ⟨v1, v2, v3, v4⟩ := k v (by omega) h12
  exact ⟨⟨a1.trans h1, h2⟩, u, v, by rw [a4]; exact h3, by rw [a4]; exact h4, ⟨u1.trans h5, u2.trans h6, by rw [u3]; exact h7, h8⟩, v1.trans h9, v2.trans h10, by rw [v3]; exact h11, h12⟩

set_option maxHeartbeats 4000000 in
set_option maxRecDepth 100000 in
theorem c_removeResolution {G : ax_G} {T : Nat → Nat} {N : Nat → Int} {I : Nat → Int → Int} {R : Nat → Int → Option Nat} {z : Nat} {g : Nat} {k : Int} {rs : List (List Int × List Int)} (hg : mgT T N R g) (hr : reS T N I R g rs) (h0 : 0 ≤ k) (hk : k < rs.length) : axR G YX3_removeResolution 0 [vR g, vI k] T N I R z (fun r1 I1 R1 => r1 = none ∧ I1 = ax_u I g 1 (I g 1 - 1) ∧ (∀ q, q ≠ g + 1 → R1 q = R q) ∧ (∀ j : Int, 0 ≤ j → j < I g 1 - 1 → R1 (g + 1) j = if j < k then R (g + 1) j else R (g + 1) (j + 1)) ∧ ∀ j : Int, I g 1 - 1 ≤ j → R1 (g + 1) j = R (g + 1) j) := by

  refine ax_enter (by decide) (Nat.le_of_ble_eq_true rfl) (ax_cat rfl) (fun f hC => ?_)
  show axX G f 0 0 _ 0 [vR g, vI k, vU] [] T N I R z 0 0
  have h1 := hr.1
  have h8 := hr.2.1
  have loop : ∀ (n : Nat) (x : Int) (S : Nat → Int → Option Nat), (rs.length - x).toNat ≤ n → k ≤ x → x < rs.length → (∀ q, q ≠ g + 1 → S q = R q) → (∀ j : Int, 0 ≤ j → j < k → S (g + 1) j = R (g + 1) j) → (∀ j : Int, k ≤ j → j < x → S (g + 1) j = R (g + 1) (j + 1)) → (∀ j : Int, x ≤ j → S (g + 1) j = R (g + 1) j) → axX G f 0 0 (fun r1 T1 N1 I1 R1 z1 => (r1 = none ∧ I1 = ax_u I g 1 (I g 1 - 1) ∧ (∀ q, q ≠ g + 1 → R1 q = R q) ∧ (∀ j : Int, 0 ≤ j → j < I g 1 - 1 → R1 (g + 1) j = if j < k then R (g + 1) j else R (g + 1) (j + 1)) ∧ ∀ j : Int, I g 1 - 1 ≤ j → R1 (g + 1) j = R (g + 1) j) ∧ T1 = T ∧ N1 = N ∧ z1 = z) 2 [vR g, vI k, vI x] [] T N I S z 0 0 := by
    intro n
    induction n with
    | zero => intro x S hn hx0 hx1; omega
    | succ n ih =>
      intro x S hn hx0 hx1 s1 s2 s3 s4
      have hgS : mgT T N S g := mgT_f1 hg s1
      have st7 : x + 1 < rs.length → ∀ v, S (g + 1) (x + 1) = some v → axTakes RX7 (T v) := by
        intro hx v hv
        obtain ⟨p, hp⟩ : ∃ p, rs[(x + 1).toNat]? = some p := ⟨_, List.getElem?_eq_getElem (by omega)⟩
        obtain ⟨a, a1, a2⟩ := hr.2.2 _ p hp
        rw [s4 (x + 1) (by omega)] at hv
        rw [show (((x + 1).toNat : Nat) : Int) = x + 1 by omega, hv] at a1
        cases a1
        rw [a2.1.1]
        exact axTakes_7
      refine x_iload_n (pc := 2) hC dX3_removeResolution_2 rfl ?_
      refine x_iconst (pc := 3) hC dX3_removeResolution_3 ?_
      refine x_iadd (pc := 4) hC dX3_removeResolution_4 ?_
      refine x_aload_n (pc := 5) hC dX3_removeResolution_5 rfl ?_
      refine x_getI (pc := 6) hC gf_X3_141 dX3_removeResolution_6 hg.1 ?_
      refine x_icmp_ge (pc := 9) hC 32 dX3_removeResolution_9 (by decide) (by omega) (by omega) (fun b9 => ?_) (fun b9 => ?_)
      · refine x_aload_n (pc := 32) hC dX3_removeResolution_32 rfl ?_
        refine x_dup (pc := 33) hC dX3_removeResolution_33 rfl ?_
        refine x_getI (pc := 34) hC gf_X3_141 dX3_removeResolution_34 hg.1 ?_
        refine x_iconst (pc := 37) hC dX3_removeResolution_37 ?_
        refine x_isub (pc := 38) hC dX3_removeResolution_38 ?_
        refine x_putI (pc := 39) hC pf_X3_141 dX3_removeResolution_39 hg.1 (by decide) ?_
        refine x_vret (pc := 42) hC rfl dX3_removeResolution_42 ?_
        refine ⟨⟨rfl, rfl, s1, fun j a1 a2 => ?_, fun j a1 => s4 j (by omega)⟩, rfl, rfl, rfl⟩
        split
        · exact s2 j a1 (by assumption)
        · exact s3 j (by omega) (by omega)
      · refine x_aload_n (pc := 12) hC dX3_removeResolution_12 rfl ?_
        refine x_getO (pc := 13) hC gf_X3_11 dX3_removeResolution_13 hg.1 hgS.2.1.1 ?_
        refine x_iload_n (pc := 16) hC dX3_removeResolution_16 rfl ?_
        refine x_aload_n (pc := 17) hC dX3_removeResolution_17 rfl ?_
        refine x_getO (pc := 18) hC gf_X3_11 dX3_removeResolution_18 hg.1 hgS.2.1.1 ?_
        refine x_iload_n (pc := 21) hC dX3_removeResolution_21 rfl ?_
        refine x_iconst (pc := 22) hC dX3_removeResolution_22 ?_
        refine x_iadd (pc := 23) hC dX3_removeResolution_23 ?_
        refine x_aald (pc := 24) hC axEl_16 dX3_removeResolution_24 hgS.2.1.2.1 (by omega) (by rw [hgS.2.1.2.2]; omega) rfl ?_
        refine x_aast (pc := 25) hC axEl_16 dX3_removeResolution_25 hgS.2.1.2.1 (by omega) (by rw [hgS.2.1.2.2]; omega) (st7 (by omega)) ?_
        refine x_iinc (pc := 26) hC dX3_removeResolution_26 rfl ?_
        dsimp only [List.set]
        refine x_goto (pc := 29) hC 2 dX3_removeResolution_29 (by decide) ?_
        refine ih (x + 1) _ (by omega) (by omega) (by omega) (fun q hq => by rw [axu_row hq]; exact s1 q hq) (fun j a1 a2 => by rw [axu_j (by omega)]; exact s2 j a1 a2) (fun j a1 a2 => ?_) (fun j a1 => by rw [axu_j (by omega)]; exact s4 j (by omega))
        by_cases hj : j = x
        · rw [hj, axu_s]; exact s4 (x + 1) (by omega)
        · rw [axu_j hj]; exact s3 j a1 (by omega)
  refine x_iload_n (pc := 0) hC dX3_removeResolution_0 rfl ?_
  refine x_istore_n (pc := 1) hC dX3_removeResolution_1 (Nat.le_of_ble_eq_true rfl) ?_
  dsimp only [List.set]
  exact loop _ k R (Nat.le_refl _) (by omega) hk (fun _ _ => rfl) (fun _ _ _ => rfl) (fun j a1 a2 => by omega) (fun _ _ => rfl)

theorem reS_erase {T : Nat → Nat} {N : Nat → Int} {I J : Nat → Int → Int} {R S : Nat → Int → Option Nat} {g : Nat} {k : Int} {rs : List (List Int × List Int)} (hr : reS T N I R g rs) (h0 : 0 ≤ k) (hk : k < rs.length) (hJ : J = ax_u I g 1 (I g 1 - 1)) (hS : ∀ q, q ≠ g + 1 → S q = R q) (hR : ∀ j : Int, 0 ≤ j → j < I g 1 - 1 → S (g + 1) j = if j < k then R (g + 1) j else R (g + 1) (j + 1)) : reS T N J S g (rs.eraseIdx k.toNat) := by
  obtain ⟨h1, h2, h3⟩ := hr
  have hl : (rs.eraseIdx k.toNat).length = rs.length - 1 := List.length_eraseIdx_of_lt (by omega)
  refine ⟨by rw [hJ, axu_s, h1, hl]; omega, by omega, fun i p hp => ?_⟩
  have hi : i < rs.length - 1 := by
    have := (List.getElem?_eq_some_iff.mp hp).1
    omega
  rw [List.getElem?_eraseIdx] at hp
  have hRi := hR i (by omega) (by omega)
  have fr : ∀ a, reO T N I R g a p → reO T N J S g a p := fun a h => reO_fr h (fun q hq => by rw [hJ]; exact axu_row (by omega)) (fun q hq => hS q (by omega))
  by_cases hik : i < k.toNat
  · rw [if_pos hik] at hp
    rw [if_pos (by omega)] at hRi
    obtain ⟨a, a1, a2⟩ := h3 i p hp
    exact ⟨a, hRi.trans a1, fr a a2⟩
  · rw [if_neg hik] at hp
    rw [if_neg (by omega)] at hRi
    obtain ⟨a, a1, a2⟩ := h3 (i + 1) p hp
    exact ⟨a, hRi.trans (by rw [← a1]; congr 1), fr a a2⟩

set_option maxHeartbeats 4000000 in
set_option maxRecDepth 100000 in
theorem c_init7 {G : ax_G} {T : Nat → Nat} {N : Nat → Int} {I : Nat → Int → Int} {R : Nat → Int → Option Nat} {z : Nat} {x : Nat} {p q : Option Nat} (hx : T x = 7) : axR G YX7_init 1 [vR x, vO p, vO q] T N I R z (fun r1 I1 R1 => r1 = none ∧ I1 = I ∧ R1 = ax_u (ax_u R x 0 p) x 1 q) := by

  refine ax_enter (by decide) (Nat.le_of_ble_eq_true rfl) (ax_cat (by cases p <;> cases q <;> rfl)) (fun f hC => ?_)
  show axX G f 0 0 _ 0 [vR x, vO p, vO q] [] T N I R z 0 0
  refine x_aload_n (pc := 0) hC dX7_init_0 rfl ?_
  refine x_objInit (pc := 1) hC oi_X7_1 w_oinst w_ocode dX7_init_1 (by decide) rfl (Nat.le_of_ble_eq_true rfl) ?_
  refine x_aload_n (pc := 4) hC dX7_init_4 rfl ?_
  refine x_aload_n (pc := 5) hC dX7_init_5 rfl ?_
  refine x_putO (pc := 6) hC pf_X7_7 dX7_init_6 (Or.inr ⟨_, rfl⟩) hx (fun _ => rfl) ?_
  refine x_aload_n (pc := 9) hC dX7_init_9 rfl ?_
  refine x_aload_n (pc := 10) hC dX7_init_10 rfl ?_
  refine x_putO (pc := 11) hC pf_X7_13 dX7_init_11 (Or.inr ⟨_, rfl⟩) hx (fun _ => rfl) ?_
  refine x_vret (pc := 14) hC rfl dX7_init_14 ?_
  exact ⟨⟨rfl, rfl, rfl⟩, rfl, rfl, rfl⟩

