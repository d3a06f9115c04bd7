/-! THE START: the relation and the invariant hold behind both constructors -/
theorem num_0 {Ib I0 J : Nat → Int → Int} {o : Nat} (hZ : zrM Ib I0 o 36) (hI : J = mdI I0 o 0 (-9) (-9)) : (J o 2 = 1 ∧ J o 3 = 1 ∧ J o 1 = mdT 0 (-9) 0 ∧ ∀ k, k ≠ 1 → k ≠ 2 → k ≠ 3 → J o k = 0) ∧ (∀ q, (q = o + 5 ∨ o + 5 < q) → q ≤ o + 36 → q ≠ o + 31 → ∀ j, J q j = 0) ∧ (∀ j, J (o + 1) j = 0) ∧ (J (o + 2) 0 = -9 ∧ J (o + 3) 0 = -9) ∧ (∀ j, 0 ≤ J (o + 4) j ∧ J (o + 4) j ≤ 1) ∧ (∀ j, 0 ≤ j → j < 5 → J (o + 31) j = -9) ∧ ∀ j, J (o + 31) j = -9 ∨ J (o + 31) j = 0 := by
  obtain ⟨-, z1, z2, z3⟩ := hZ
  obtain ⟨z3, z4⟩ := z3 (by omega)
  subst hI
  refine ⟨⟨by rw [md_o2, z1]; rfl, by rw [md_o3, z1]; rfl, by rw [md_o1, z1], fun k k1 k2 k3 => by rw [md_o k1 k2 k3, z1]⟩, fun q q1 q2 q3 j => ?_, fun j => ?_, ⟨?_, ?_⟩, fun j => ?_, ?_, ?_⟩
  · by_cases e1 : q = o + 6
    · rw [e1, md_6]; dsimp only
      split
      · rfl
      · exact z2 _ (by omega) (by omega) (by omega) j
    · rw [md_row (by omega) (by omega)]
      exact z2 q (by omega) q2 q3 j
  · rw [md_1]; dsimp only
    split
    · rfl
    · exact z2 _ (by omega) (by omega) (by omega) j
  · rw [md_2, z1]; rfl
  · rw [md_3, z1]; rfl
  · rw [md_4, z1]; dsimp only
    split
    · rw [z1]; omega
    · rw [z2 _ (by omega) (by omega) (by omega) j]; omega
  · rw [md_row (by omega) (by omega)]; exact z3
  · rw [md_row (by omega) (by omega)]; exact z4
theorem inv_0 {Ib I0 J : Nat → Int → Int} {o : Nat} (hZ : zrM Ib I0 o 36) (hI : J = mdI I0 o 0 (-9) (-9)) : INV J o 1 := by
  obtain ⟨⟨j2, j3, j1, jo⟩, jq, k1, ⟨k2, k3⟩, k4, k5, k6⟩ := num_0 hZ hI
  have j30 : J o 30 = 0 := jo 30 (by decide) (by decide) (by decide)
  have j35 : J o 35 = 0 := jo 35 (by decide) (by decide) (by decide)
  have j40 : J o 40 = 0 := jo 40 (by decide) (by decide) (by decide)
  refine ⟨⟨by rw [j2]; omega, ⟨fun j => ?_, fun j => ?_⟩, ?_, k2, fun b b0 b1 => ?_, fun c => ?_⟩, miR_rs (by rw [j30]; omega) (fun j => ?_) (fun j => ?_) (fun j => ?_) (fun j => ?_) (fun p hp => ?_), ⟨fun s => ?_, fun s => ?_, fun s => ?_, fun s => ?_, fun s => ?_, fun s => ?_, fun c => ?_⟩, miK_rs (by rw [j35]; omega) (fun j => ?_) (fun j => ?_) (fun j => ?_) (fun j => ?_) (fun p hp => ?_), jq _ (by omega) (by omega) (by omega) 0, by rw [j40]; omega, fun h9 => absurd j40 h9, by rw [j3]; omega⟩
  · rw [jq _ (by omega) (by omega) (by omega) j]; omega
  · rw [jq _ (by omega) (by omega) (by omega) j]; omega
  · rw [j2]; exact ⟨by rw [k2]; omega, fun x x0 x1 => by omega⟩
  · rw [jq _ (by omega) (by omega) (by omega) b, j2]; omega
  · rw [k1]; omega
  · rw [jq _ (by omega) (by omega) (by omega) j]; omega
  · rw [jq _ (by omega) (by omega) (by omega) j]; omega
  · rw [jq _ (by omega) (by omega) (by omega) j]; omega
  · rw [jq _ (by omega) (by omega) (by omega) j]; omega
  · unfold rsL at hp; rw [j30] at hp; cases hp
  · rcases k6 s with e1 | e1 <;> rw [e1] <;> omega
  · rw [jq _ (by omega) (by omega) (by omega) s]; omega
  · rw [jq _ (by omega) (by omega) (by omega) s]; decide
  · rw [jq _ (by omega) (by omega) (by omega) s]; omega
  · rw [jq _ (by omega) (by omega) (by omega) s]; omega
  · rw [jq _ (by omega) (by omega) (by omega) s, j3]; omega
  · rw [j3]; exact k4 c
  · rw [jq _ (by omega) (by omega) (by omega) j]; omega
  · rw [jq _ (by omega) (by omega) (by omega) j]; omega
  · rw [jq _ (by omega) (by omega) (by omega) j]; omega
  · rw [jq _ (by omega) (by omega) (by omega) j]; omega
  · unfold kpL at hp; rw [j35] at hp; cases hp
theorem rel_0 {G : ax_G} {T T1 : Nat → Nat} {N N1 : Nat → Int} {I : Nat → Int → Int} {R R1 : Nat → Int → Option Nat} {Ib I0 J : Nat → Int → Int} {a o : Nat} (ho : o = a + 197) (h : f11 G T N I R a) (e : ∀ q, q < o → T1 q = T q ∧ N1 q = N q ∧ J q = I q ∧ R1 q = R q) (tz : ∀ q, T1 q ≠ 99 → q < o + 37) (hZ : zrM Ib I0 o 36) (hI : J = mdI I0 o 0 (-9) (-9)) : RelA G T1 N1 J R1 (o + 37) a o J (fun _ => a + 182) (fun _ => G.2.2.2.2.1) := by
  obtain ⟨⟨j2, j3, j1, jo⟩, jq, k1, ⟨k2, k3⟩, k4, k5, k6⟩ := num_0 hZ hI
  have j30 : J o 30 = 0 := jo 30 (by decide) (by decide) (by decide)
  have j40 : J o 40 = 0 := jo 40 (by decide) (by decide) (by decide)
  obtain ⟨⟨⟨y1, y2⟩, ⟨⟨y3, y4⟩, y5⟩, y6, y7, ⟨y8, y9⟩, ⟨y10, y11, y12⟩, y13, y14, y15⟩, hs, ⟨r1, r2, r3⟩, ⟨r4, r5, r6, r7⟩, sg, ⟨i1, i2, i3, i4, i5⟩, ⟨c1, c2, c3, c4, c5, c6, c7⟩, d1, d2, d3, d4, d5⟩ := h
  have hs' : s11 T1 N1 R1 a 5 := s11_eq (z := a + 182) hs (by omega) (by omega) (fun q hq => ⟨(e q (by omega)).1, (e q (by omega)).2.1⟩) (fun q _ hq => (e q (by omega)).2.2.2) (fun j _ _ => by rw [(e a (by omega)).2.2.2])
  obtain ⟨s1, ⟨s2, s3, s4⟩, s5, s6, s7, s8⟩ := hs'
  have eT : ∀ q, q < o → T1 q = T q := fun q hq => (e q hq).1
  have eN : ∀ q, q < o → N1 q = N q := fun q hq => (e q hq).2.1
  have eJ : ∀ q, q < o → J q = I q := fun q hq => (e q hq).2.2.1
  have eR : ∀ q, q < o → R1 q = R q := fun q hq => (e q hq).2.2.2
  have rpE1 : rpT T1 N1 R1 (a + 183) (a + 184) := rpT_eq r2 (fun q hq => ⟨eT q (by omega), eN q (by omega)⟩) (fun j _ _ => by rw [eR _ (by omega)])
  have rpE2 : rpT T1 N1 R1 (a + 189) (a + 192) := rpT_eq r5 (fun q hq => ⟨eT q (by omega), eN q (by omega)⟩) (fun j _ _ => by rw [eR _ (by omega)])
  have hnl : T1 G.2.2.2.2.1 = 13 ∧ N1 G.2.2.2.2.1 = 0 := ⟨by rw [eT _ (by omega)]; exact y3, by rw [eN _ (by omega)]; exact y4⟩
  have hp5 : pT (T1 (a + 182)) := by rw [eT _ (by omega), c1]; decide
  refine ⟨⟨y2, by omega, Nat.le_refl _, ⟨hnl, y5⟩, tz, by rw [eT _ (by omega)]; exact y7, ⟨by rw [eR _ (by omega)]; exact y8, by rw [eT _ (by omega)]; exact y9⟩, ⟨by rw [eR _ (by omega)]; exact y10, by rw [eT _ (by omega)]; exact y11, by rw [eN _ (by omega)]; exact y12⟩, ⟨by rw [eR _ (by omega)]; exact y13, by rw [eT _ (by omega)]; exact y14, by rw [eN _ (by omega)]; exact y15⟩, s1, fun k hk => ⟨(s8 k (by omega)).1, (s8 k (by omega)).2.1⟩, ⟨s2, s3⟩, s5, s6, ⟨by rw [eR _ (by omega)]; exact r1, rpE1, by rw [eR _ (by omega)]; exact r3⟩, ⟨by rw [eR _ (by omega)]; exact r4, rpE2, by rw [eR _ (by omega)]; exact r6, by rw [eT _ (by omega)]; exact r7⟩, s7⟩, fun j hj => by rw [eJ _ (by omega)]; exact sg j hj, by rw [eJ a (by omega), j2]; exact i1, by rw [eJ (a + 1) (by omega), j1]; exact i3, by rw [eJ a (by omega), jo 0 (by decide) (by decide) (by decide)]; exact i2, ⟨?_, fun c h0 h1 => ?_⟩, fun c h0 h1 => ?_, fun b b0 b1 => by rw [eR _ (by omega)]; exact d2 b b0 b1, fun s hs => ?_, fun s hs u hu => ?_, ⟨?_, ?_, fun k p hp => ?_⟩, ⟨fun j v _ _ hv => ?_, fun j v _ _ hv => ?_⟩, fun k _ _ => ?_, ?_, fun h9 => absurd j40 h9⟩
  · rw [j2]; exact ⟨by rw [k2]; omega, fun x x0 x1 => by omega⟩
  · rw [j2] at h1
    have e0 : c = 0 := by omega
    subst e0
    dsimp only
    refine ⟨hp5, by rw [eJ _ (by omega)]; exact c2, by rw [eR _ (by omega), if_pos rfl]; exact c3, by rw [eR _ (by omega)]; exact c4, hnl.1, by rw [hnl.2]; omega, fun j _ j9 => by rw [hnl.2] at j9; omega⟩
  · rw [j2] at h1
    have e0 : c = 0 := by omega
    subst e0
    have j6 : J (o + 6) 0 = 0 := jq _ (by omega) (by omega) (by omega) 0
    dsimp only
    refine ⟨by rw [eR _ (by omega)]; exact d1, by rw [eT _ (by omega), c1, k1]; rfl, by rw [eR _ (by omega)]; exact c6, ⟨by rw [eR _ (by omega), k3, if_pos rfl]; exact c5, Or.inl k3⟩, by rw [eJ _ (by omega)]; exact c7, ⟨by rw [hnl.2, j6], ?_⟩, Or.inl rfl, Or.inl rfl⟩
    unfold rowL
    rw [j6, seg_nil (Int.le_refl _), seg_nil (Int.le_refl _)]
  · obtain ⟨t1, t2, t3, t4⟩ := s8 s (by omega)
    have e9 := k5 s (by omega) (by omega)
    exact ⟨Or.inl (by rw [eJ _ (by omega)]; exact i5 s (by omega)), Or.inl e9, fun _ => ⟨t3, t4⟩, fun h9 => by omega, fun h9 => by omega⟩
  · rw [(s8 s (by omega)).2.2.1] at hu; cases hu
  · have e0 : rsL J o = [] := by unfold rsL; rw [j30]; rfl
    rw [e0, eJ _ (by omega)]; exact i4
  · have e0 : rsL J o = [] := by unfold rsL; rw [j30]; rfl
    rw [e0]; exact Nat.zero_le _
  · have e0 : rsL J o = [] := by unfold rsL; rw [j30]; rfl
    rw [e0] at hp; cases hp
  · rw [s4] at hv; cases hv
  · rw [eR _ (by omega), d3] at hv; cases hv
  · rw [eJ _ (by omega), d4, jq _ (by omega) (by omega) (by omega) k]
  · rw [eJ _ (by omega), j40]; exact d5

