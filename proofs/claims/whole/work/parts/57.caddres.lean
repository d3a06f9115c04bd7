/-! THE CLASS: a resolution is recorded -/
set_option maxHeartbeats 4000000 in
set_option maxRecDepth 100000 in
theorem c_addResolution {G : ax_G} {T : Nat → Nat} {N : Nat → Int} {I : Nat → Int → Int} {R : Nat → Int → Option Nat} {z : Nat} {g s u : Nat} {c : List Int × List Int} {M : List Int} {rs : List (List Int × List Int)} (hg : mgT T N R g) (hr : reS T N I R g rs) (h8 : rs.length < 8) (hsh : R g 16 = some s) (hs : shT T N R s) (hc : shS I s c) (hcl : c.1.length ≤ 51) (hcl2 : c.2.length ≤ 48) (hcn : isLn c.2) (hsg : g + 2 < s ∧ s + 3 ≤ g + 93) (hu : T u = 13) (hun : N u = M.length) (huM : seg (I u) 0 M.length = M) (hM6 : M.length ≤ 24) (hMl : isLn M) (hug : u < g ∨ g + 93 ≤ u) (huz : u < z) (hB : G.2.2.2.1 ≤ g) (hz : g + 93 ≤ z) (hrz : ∀ q, T q ≠ 99 → q < z) : axM G YX3_addResolution 2 [vR g, vR u] T N I R z 3 (M.length + c.1.length + 2) (fun r1 T1 N1 I1 R1 z1 => r1 = none ∧ (z1 = z + 3 ∧ ∀ q, z + 3 ≤ q → T1 q = T q) ∧ (∀ q, q < z → T1 q = T q ∧ N1 q = N q) ∧ (∀ q, q < z → q ≠ g → I1 q = I q) ∧ (∀ j, j ≠ 1 → I1 g j = I g j) ∧ (∀ q, q < z → q ≠ g + 1 → R1 q = R q) ∧ (∀ j, j ≠ (rs.length : Int) → R1 (g + 1) j = R (g + 1) j) ∧ (R1 (g + 1) (rs.length : Int) = some (z + 2) ∧ R1 (z + 2) 0 = some (z + 1) ∧ R1 (z + 2) 1 = some z ∧ T1 (z + 2) = 7) ∧ reS T1 N1 I1 R1 g (rs ++ [(c.1, M.map (stv c.2))])) := by

  refine ax_enter (by decide) (Nat.le_of_ble_eq_true rfl) (ax_cat rfl) (fun f hC => ?_)
  show axX G f 3 (M.length + c.1.length + 2) _ 0 [vR g, vR u, vU, vU, vU] [] T N I R z 3 (M.length + c.1.length + 2)
  have h1 := hr.1
  have eT : ∀ q, q < z → (ax_n T z 13) q = T q := fun q hq => axn_a (by omega)
  have eN : ∀ q, q < z → (ax_n N z (M.length : Int)) q = N q := fun q hq => axn_a (by omega)
  have eR : ∀ q, q < z → (ax_n R z (fun _ => none)) q = R q := fun q hq => axn_a (by omega)
  have hg1 : mgT (ax_n T z 13) (ax_n N z (M.length : Int)) (ax_n R z (fun _ => none)) g := mgT_le hg eT eN eR hz
  have hs1 : shT (ax_n T z 13) (ax_n N z (M.length : Int)) (ax_n R z (fun _ => none)) s := shT_le hs eT eN eR (by omega)
  have hsh1 : (ax_n R z (fun _ => none)) g 16 = some s := by rw [eR g (by omega)]; exact hsh
  have hu1 : (ax_n T z 13) u = 13 := by rw [eT u huz]; exact hu
  have hu2 : (ax_n N z (M.length : Int)) u = M.length := by rw [eN u huz]; exact hun
  have hMr : ∀ j : Int, 0 ≤ j → j < M.length → 0 ≤ I u j ∧ I u j < 100 := fun j a1 a2 => hMl _ (by rw [← huM]; exact seg_mem.mpr ⟨j, a1, a2, rfl⟩)
  have end_ : ∀ (row : Int → Int), seg row 0 (M.length : Int) = M.map (stv c.2) → ∀ (n9 : Nat) (c3 c4 : ax_V), c.1.length + 2 ≤ n9 → axX G f 3 (M.length + c.1.length + 2) (fun r1 T1 N1 I1 R1 z1 => r1 = none ∧ (z1 = z + 3 ∧ ∀ q, z + 3 ≤ q → T1 q = T q) ∧ (∀ q, q < z → T1 q = T q ∧ N1 q = N q) ∧ (∀ q, q < z → q ≠ g → I1 q = I q) ∧ (∀ j, j ≠ 1 → I1 g j = I g j) ∧ (∀ q, q < z → q ≠ g + 1 → R1 q = R q) ∧ (∀ j, j ≠ (rs.length : Int) → R1 (g + 1) j = R (g + 1) j) ∧ (R1 (g + 1) (rs.length : Int) = some (z + 2) ∧ R1 (z + 2) 0 = some (z + 1) ∧ R1 (z + 2) 1 = some z ∧ T1 (z + 2) = 7) ∧ reS T1 N1 I1 R1 g (rs ++ [(c.1, M.map (stv c.2))])) 62 [vR g, vR u, vR z, c3, c4] [] (ax_n T z 13) (ax_n N z (M.length : Int)) (ax_n I z row) (ax_n R z (fun _ => none)) (z + 1) 2 n9 := by
    intro row hrow n9 c3 c4 hn9
    have eI : ∀ q, q < z → ax_n I z row q = I q := fun q hq => axn_a (by omega)
    have hc1 : ax_n I z row s 1 = c.1.length := by rw [eI s (by omega)]; exact hc.1.1
    have hcp := c_copyOf (G := G) (T := (ax_n T z 13)) (N := (ax_n N z (M.length : Int))) (I := ax_n I z row) (R := (ax_n R z (fun _ => none))) (z := z + 1) (a := s + 1) (n := (c.1.length : Int)) hs1.2.1.2.1 (by omega) (by omega) (by omega) (by rw [hs1.2.1.2.2]; omega) (by rw [hs1.2.1.2.2]; omega)
    rw [eI (s + 1) (by omega), hc.1.2] at hcp
    refine x_aload_n (pc := 62) hC dX3_addResolution_62 rfl ?_
    refine x_getO (pc := 63) hC gf_X3_63 dX3_addResolution_63 hg1.1 hsh1 ?_
    refine x_getO (pc := 66) hC gf_X3_174 dX3_addResolution_66 hs1.1 hs1.2.1.1 ?_
    refine x_aload_n (pc := 69) hC dX3_addResolution_69 rfl ?_
    refine x_getO (pc := 70) hC gf_X3_63 dX3_addResolution_70 hg1.1 hsh1 ?_
    refine x_getI (pc := 73) hC gf_X3_177 dX3_addResolution_73 hs1.1 ?_
    rw [hc1]
    refine x_callS (pc := 76) hC cs_X3_165 dX3_addResolution_76 hcp rfl (by decide) (by omega) (by omega) rfl rfl (Nat.le_of_ble_eq_true rfl) (fun _ _ _ _ _ _ hq => ?_)
    obtain ⟨rfl, rfl, rfl, rfl, rfl, row2, rfl, hrow2⟩ := hq
    dsimp only [Option.toList, List.cons_append, List.nil_append]
    have eT2 : ∀ q, q < z + 1 → (ax_n (ax_n T z 13) (z + 1) 13) q = (ax_n T z 13) q := fun q hq => axn_a (by omega)
    have hz13 : (ax_n (ax_n T z 13) (z + 1) 13) z = 13 := by rw [eT2 z (by omega), axn_s]
    have eN2 : ∀ q, q < z → ax_n (ax_n N z (M.length : Int)) (z + 1) (c.1.length : Int) q = N q := fun q hq => by rw [axn_a (by omega)]; exact eN q hq
    have hg2 : mgT (ax_n (ax_n T z 13) (z + 1) 13) (ax_n (ax_n N z (M.length : Int)) (z + 1) (c.1.length : Int)) (ax_n (ax_n R z (fun _ => none)) (z + 1) (fun _ => none)) g := mgT_le hg (fun q hq => by rw [eT2 q (by omega)]; exact eT q hq) eN2 (fun q hq => by rw [axn_a (by omega)]; exact eR q hq) hz
    have hg3 : mgT (ax_n (ax_n (ax_n T z 13) (z + 1) 13) (z + 1 + 1) 7) (ax_n (ax_n N z (M.length : Int)) (z + 1) (c.1.length : Int)) (ax_u (ax_u (ax_n (ax_n (ax_n R z (fun _ => none)) (z + 1) (fun _ => none)) (z + 1 + 1) (fun _ => none)) (z + 1 + 1) 0 (some (z + 1))) (z + 1 + 1) 1 (some z)) g := mgT_le hg2 (z := z) (fun q hq => axn_a (by omega)) (fun q hq => rfl) (fun q hq => by rw [axu_row (by omega), axu_row (by omega), axn_a (by omega)]) hz
    have hI1 : ax_n (ax_n I z row) (z + 1) row2 g 1 = rs.length := by rw [axn_a (by omega), axn_a (by omega)]; exact h1
    have hI2 : ax_n (ax_n (ax_n I z row) (z + 1) row2) (z + 1 + 1) (fun _ => 0) g 1 = rs.length := by rw [axn_a (by omega)]; exact hI1
    refine x_astore_n (pc := 79) hC dX3_addResolution_79 (Nat.le_of_ble_eq_true rfl) ?_
    dsimp only [List.set]
    refine x_aload_n (pc := 80) hC dX3_addResolution_80 rfl ?_
    refine x_getO (pc := 81) hC gf_X3_11 dX3_addResolution_81 hg2.1 hg2.2.1.1 ?_
    refine x_aload_n (pc := 84) hC dX3_addResolution_84 rfl ?_
    refine x_getI (pc := 85) hC gf_X3_141 dX3_addResolution_85 hg2.1 ?_
    rw [hI1]
    refine x_new (pc := 88) hC nw_X3_9 dX3_addResolution_88 (by omega) (by omega) ?_
    refine x_dup (pc := 91) hC dX3_addResolution_91 rfl ?_
    refine x_aload_n (pc := 92) hC dX3_addResolution_92 rfl ?_
    refine x_aload_n (pc := 93) hC dX3_addResolution_93 rfl ?_
    refine x_callI (pc := 94) hC ci_X3_178 dX3_addResolution_94 (c_init7 (p := some (z + 1)) (q := some z) axn_s) rfl (by decide) (by omega) (by omega) rfl rfl (Nat.le_of_ble_eq_true rfl) (fun _ _ _ _ _ _ hq => ?_)
    obtain ⟨⟨rfl, rfl, rfl⟩, rfl, rfl, rfl⟩ := hq
    dsimp only [Option.toList, List.nil_append]
    refine x_aast (pc := 97) hC axEl_16 dX3_addResolution_97 hg3.2.1.2.1 (by omega) (by rw [hg3.2.1.2.2]; omega) (fun v hv => by cases hv; rw [axn_s]; exact axTakes_7) ?_
    refine x_aload_n (pc := 98) hC dX3_addResolution_98 rfl ?_
    refine x_dup (pc := 99) hC dX3_addResolution_99 rfl ?_
    refine x_getI (pc := 100) hC gf_X3_141 dX3_addResolution_100 hg3.1 ?_
    rw [hI2]
    refine x_iconst (pc := 103) hC dX3_addResolution_103 ?_
    refine x_iadd (pc := 104) hC dX3_addResolution_104 ?_
    refine x_putI (pc := 105) hC pf_X3_141 dX3_addResolution_105 hg3.1 (by decide) ?_
    refine x_vret (pc := 108) hC rfl dX3_addResolution_108 ?_
    have fI : ∀ q, q < z → q ≠ g → ax_u (ax_n (ax_n (ax_n I z row) (z + 1) row2) (z + 1 + 1) (fun _ => 0)) g 1 ((rs.length : Int) + 1) q = I q := fun q a1 a2 => by rw [axu_row a2, axn_a (by omega), axn_a (by omega), axn_a (by omega)]
    have fR : ∀ q, q < z → q ≠ g + 1 → ax_u (ax_u (ax_u (ax_n (ax_n (ax_n R z (fun _ => none)) (z + 1) (fun _ => none)) (z + 1 + 1) (fun _ => none)) (z + 1 + 1) 0 (some (z + 1))) (z + 1 + 1) 1 (some z)) (g + 1) (rs.length : Int) (some (z + 1 + 1)) q = R q := fun q a1 a2 => by rw [axu_row a2, axu_row (by omega), axu_row (by omega), axn_a (by omega), axn_a (by omega), axn_a (by omega)]
    have fT : ∀ q, q < z → ax_n (ax_n (ax_n T z 13) (z + 1) 13) (z + 1 + 1) 7 q = T q := fun q a1 => by rw [axn_a (by omega), eT2 q (by omega), eT q a1]
    refine ⟨rfl, ⟨rfl, fun q a1 => by rw [axn_a (by omega), axn_a (by omega), axn_a (by omega)]⟩, fun q a1 => ⟨fT q a1, eN2 q a1⟩, fI, fun j a1 => ?_, fR, fun j a1 => ?_, ⟨?_, ?_, ?_, ?_⟩, ?_, ?_, ?_⟩
    · rw [axu_j a1, axn_a (by omega), axn_a (by omega), axn_a (by omega)]
    · rw [axu_j a1, axu_row (by omega), axu_row (by omega), axn_a (by omega), axn_a (by omega), axn_a (by omega)]
    · rw [axu_s]
    · rw [axu_a (by omega), axu_j (by decide), axu_s]
    · rw [axu_a (by omega), axu_s]
    · rw [axn_s]
    · rw [axu_s]; simp
    · simp; omega
    · intro k p hk
      by_cases hkl : k < rs.length
      · rw [List.getElem?_append_left hkl] at hk
        obtain ⟨a9, b1, b2⟩ := hr.2.2 k p hk
        refine ⟨a9, ?_, ?_⟩
        · rw [axu_j (by omega), axu_row (by omega), axu_row (by omega), axn_a (by omega), axn_a (by omega), axn_a (by omega)]; exact b1
        · refine reO_le b2 (fun q h99 hq => ?_)
          have hqz := hrz q h99
          exact ⟨fT q hqz, eN2 q hqz, fI q hqz (by omega), fR q hqz (by omega)⟩
      · rw [List.getElem?_append_right (by omega)] at hk
        have hk1 := (List.getElem?_eq_some_iff.mp hk).1
        simp at hk1
        have hke : k = rs.length := by omega
        rw [hke, Nat.sub_self] at hk
        cases hk
        have e1 : ax_n (ax_n (ax_n T z 13) (z + 1) 13) (z + 1 + 1) 7 (z + 1) = 13 := by rw [axn_a (by omega), axn_s]
        have e2 : ax_n (ax_n (ax_n T z 13) (z + 1) 13) (z + 1 + 1) 7 z = 13 := by rw [axn_a (by omega)]; exact hz13
        refine ⟨z + 1 + 1, by rw [hke, axu_s], ⟨axn_s, by omega⟩, z + 1, z, ?_, ?_, ⟨e1, ?_, ?_, by omega⟩, e2, ?_, ?_, by omega⟩
        · rw [axu_a (by omega), axu_j (by decide), axu_s]
        · rw [axu_a (by omega), axu_s]
        · rw [axn_s]
        · rw [axu_row (by omega), axn_a (by omega), axn_s]; exact hrow2
        · rw [axn_a (by omega), axn_s]; simp
        · rw [axu_row (by omega), axn_a (by omega), axn_a (by omega), axn_s]; simpa using hrow
  have loop : ∀ (n : Nat) (x : Int) (row : Int → Int) (n9 : Nat) (c4 : ax_V), (M.length - x).toNat ≤ n → 0 ≤ x → x ≤ M.length → c.1.length + 2 ≤ n9 → (∀ j, 0 ≤ j → j < x → row j = stv c.2 (I u j)) → axX G f 3 (M.length + c.1.length + 2) (fun r1 T1 N1 I1 R1 z1 => r1 = none ∧ (z1 = z + 3 ∧ ∀ q, z + 3 ≤ q → T1 q = T q) ∧ (∀ q, q < z → T1 q = T q ∧ N1 q = N q) ∧ (∀ q, q < z → q ≠ g → I1 q = I q) ∧ (∀ j, j ≠ 1 → I1 g j = I g j) ∧ (∀ q, q < z → q ≠ g + 1 → R1 q = R q) ∧ (∀ j, j ≠ (rs.length : Int) → R1 (g + 1) j = R (g + 1) j) ∧ (R1 (g + 1) (rs.length : Int) = some (z + 2) ∧ R1 (z + 2) 0 = some (z + 1) ∧ R1 (z + 2) 1 = some z ∧ T1 (z + 2) = 7) ∧ reS T1 N1 I1 R1 g (rs ++ [(c.1, M.map (stv c.2))])) 17 [vR g, vR u, vR z, vI x, c4] [] (ax_n T z 13) (ax_n N z (M.length : Int)) (ax_n I z row) (ax_n R z (fun _ => none)) (z + 1) 2 n9 := by
    intro n
    have done_ : ∀ (x : Int) (row : Int → Int), x = M.length → (∀ j, 0 ≤ j → j < x → row j = stv c.2 (I u j)) → seg row 0 (M.length : Int) = M.map (stv c.2) := fun x row hx hr => by
      have e : M.map (stv c.2) = (seg (I u) 0 M.length).map (stv c.2) := by rw [huM]
      rw [e, seg_map]
      exact seg_congr (fun k a1 a2 => hr k a1 (by omega))
    induction n with
    | zero =>
      intro x row n9 c4 hn h0 h1 hn9 hx
      refine x_iload_n (pc := 17) hC dX3_addResolution_17 rfl ?_
      refine x_aload_n (pc := 18) hC dX3_addResolution_18 rfl ?_
      refine x_alen (pc := 19) hC dX3_addResolution_19 (by rw [axn_s]; decide) (by rw [axn_s]; decide) ?_
      rw [axn_s]
      refine x_icmp_ge (pc := 20) hC 62 dX3_addResolution_20 (by decide) (by omega) (by omega) (fun b20 => ?_) (fun b20 => ?_)
      · exact end_ row (done_ x row (by omega) hx) n9 _ _ hn9
      · exfalso; omega
    | succ n ih =>
      intro x row n9 c4 hn h0 h1 hn9 hx
      have eI : ∀ q, q < z → ax_n I z row q = I q := fun q hq => axn_a (by omega)
      have hcJ : shS (ax_n I z row) s c := shS_fr hc (eI s (by omega)) (eI (s + 1) (by omega)) (eI (s + 2) (by omega))
      have step : ∀ (v : Int) (c4 : ax_V), x < M.length → v = stv c.2 (I u x) → axX G f 3 (M.length + c.1.length + 2) (fun r1 T1 N1 I1 R1 z1 => r1 = none ∧ (z1 = z + 3 ∧ ∀ q, z + 3 ≤ q → T1 q = T q) ∧ (∀ q, q < z → T1 q = T q ∧ N1 q = N q) ∧ (∀ q, q < z → q ≠ g → I1 q = I q) ∧ (∀ j, j ≠ 1 → I1 g j = I g j) ∧ (∀ q, q < z → q ≠ g + 1 → R1 q = R q) ∧ (∀ j, j ≠ (rs.length : Int) → R1 (g + 1) j = R (g + 1) j) ∧ (R1 (g + 1) (rs.length : Int) = some (z + 2) ∧ R1 (z + 2) 0 = some (z + 1) ∧ R1 (z + 2) 1 = some z ∧ T1 (z + 2) = 7) ∧ reS T1 N1 I1 R1 g (rs ++ [(c.1, M.map (stv c.2))])) 17 [vR g, vR u, vR z, vI (x + 1), c4] [] (ax_n T z 13) (ax_n N z (M.length : Int)) (ax_u (ax_n I z row) z x v) (ax_n R z (fun _ => none)) (z + 1) 2 n9 := by
        intro v c4 hxm hv
        rw [axn_u]
        refine ih (x + 1) _ n9 _ (by omega) (by omega) (by omega) hn9 (fun j a1 a2 => ?_)
        by_cases hj : j = x
        · rw [hj, if_pos rfl]; exact hv
        · rw [if_neg hj]; exact hx j a1 (by omega)
      refine x_iload_n (pc := 17) hC dX3_addResolution_17 rfl ?_
      refine x_aload_n (pc := 18) hC dX3_addResolution_18 rfl ?_
      refine x_alen (pc := 19) hC dX3_addResolution_19 (by rw [axn_s]; decide) (by rw [axn_s]; decide) ?_
      rw [axn_s]
      refine x_icmp_ge (pc := 20) hC 62 dX3_addResolution_20 (by decide) (by omega) (by omega) (fun b20 => ?_) (fun b20 => ?_)
      · exact end_ row (done_ x row (by omega) hx) n9 _ _ hn9
      · have hux := hMr x h0 (by omega)
        refine x_aload_n (pc := 23) hC dX3_addResolution_23 rfl ?_
        refine x_getO (pc := 24) hC gf_X3_63 dX3_addResolution_24 hg1.1 hsh1 ?_
        refine x_aload_n (pc := 27) hC dX3_addResolution_27 rfl ?_
        refine x_iload_n (pc := 28) hC dX3_addResolution_28 rfl ?_
        refine x_iald (pc := 29) hC dX3_addResolution_29 hu1 (by omega) (by rw [hu2]; omega) ?_
        rw [eI u huz]
        refine x_mV (pc := 30) hC cv_X3_171 dX3_addResolution_30 (c_nameOf hs1 hcJ hcl2 hcn (by omega)) hs1.1 rfl (by decide) rfl rfl (Nat.le_of_ble_eq_true rfl) ?_
        dsimp only [Option.toList, List.cons_append, List.nil_append]
        have hnm : ∃ nm : Int, nm = (if I u x ∈ c.2 then (nix c.2 (I u x) : Int) else -9) ∧ ((I u x ∈ c.2 ∧ 0 ≤ nm ∧ nm ≤ 48 ∧ stv c.2 (I u x) = nm) ∨ (nm = -9 ∧ stv c.2 (I u x) = I u x + 100)) := by
          refine ⟨_, rfl, ?_⟩
          by_cases hmem : I u x ∈ c.2
          · rw [if_pos hmem]
            have := nix_lt _ _ hmem
            exact Or.inl ⟨hmem, by omega, by omega, by unfold stv; rw [if_pos hmem]⟩
          · rw [if_neg hmem]
            exact Or.inr ⟨rfl, by unfold stv; rw [if_neg hmem]⟩
        obtain ⟨nm, hnm0, hnm1⟩ := hnm
        rw [← hnm0]
        refine x_istore (pc := 33) hC dX3_addResolution_33 (Nat.le_of_ble_eq_true rfl) ?_
        dsimp only [List.set]
        refine x_aload_n (pc := 35) hC dX3_addResolution_35 rfl ?_
        refine x_iload_n (pc := 36) hC dX3_addResolution_36 rfl ?_
        refine x_iload (pc := 37) hC dX3_addResolution_37 rfl ?_
        refine x_bipush (pc := 39) hC dX3_addResolution_39 (by decide) ?_
        refine x_icmp_ne (pc := 41) hC 53 dX3_addResolution_41 (by decide) (by omega) (by omega) (fun b41 => ?_) (fun b41 => ?_)
        · refine x_iload (pc := 53) hC dX3_addResolution_53 rfl ?_
          refine x_iast (pc := 55) hC dX3_addResolution_55 axn_s (by omega) (by rw [axn_s]; omega) ?_
          refine x_iinc (pc := 56) hC dX3_addResolution_56 rfl ?_
          dsimp only [List.set]
          refine x_goto (pc := 59) hC 17 dX3_addResolution_59 (by decide) ?_
          exact step _ _ (by omega) (by omega)
        · refine x_bipush (pc := 44) hC dX3_addResolution_44 (by decide) ?_
          refine x_aload_n (pc := 46) hC dX3_addResolution_46 rfl ?_
          refine x_iload_n (pc := 47) hC dX3_addResolution_47 rfl ?_
          refine x_iald (pc := 48) hC dX3_addResolution_48 hu1 (by omega) (by rw [hu2]; omega) ?_
          rw [eI u huz]
          refine x_iadd (pc := 49) hC dX3_addResolution_49 ?_
          refine x_goto (pc := 50) hC 55 dX3_addResolution_50 (by decide) ?_
          refine x_iast (pc := 55) hC dX3_addResolution_55 axn_s (by omega) (by rw [axn_s]; omega) ?_
          refine x_iinc (pc := 56) hC dX3_addResolution_56 rfl ?_
          dsimp only [List.set]
          refine x_goto (pc := 59) hC 17 dX3_addResolution_59 (by decide) ?_
          exact step _ _ (by omega) (by omega)
  refine x_aload_n (pc := 0) hC dX3_addResolution_0 rfl ?_
  refine x_getI (pc := 1) hC gf_X3_141 dX3_addResolution_1 hg.1 ?_
  refine x_bipush (pc := 4) hC dX3_addResolution_4 (by decide) ?_
  refine x_icmp_lt (pc := 6) hC 10 dX3_addResolution_6 (by decide) (by omega) (by omega) (fun b6 => ?_) (fun b6 => ?_)
  · refine x_aload_n (pc := 10) hC dX3_addResolution_10 rfl ?_
    refine x_alen (pc := 11) hC dX3_addResolution_11 (by rw [hu]; decide) (by rw [hu]; decide) ?_
    rw [hun]
    refine x_newi (pc := 12) hC w_arrI dX3_addResolution_12 (by omega) (by omega) (by omega) (by omega) ?_
    refine x_astore_n (pc := 14) hC dX3_addResolution_14 (Nat.le_of_ble_eq_true rfl) ?_
    dsimp only [List.set]
    refine x_iconst (pc := 15) hC dX3_addResolution_15 ?_
    refine x_istore_n (pc := 16) hC dX3_addResolution_16 (Nat.le_of_ble_eq_true rfl) ?_
    dsimp only [List.set]
    refine loop _ 0 (fun _ => 0) _ _ (Nat.le_refl _) (by omega) (by omega) ?_ (fun j a1 a2 => by omega)
    omega
  · refine x_vret (pc := 9) hC rfl dX3_addResolution_9 ?_
    exfalso; omega

