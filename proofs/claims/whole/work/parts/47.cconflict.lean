/-! THE CLASS: conflicts -/
theorem rfind_drop {rs : List (List Int × List Int)} {sh : List Int} {x : Nat} {p : List Int × List Int} (h : rs[x]? = some p) : rfind (rs.drop x) sh = if p.1 = sh then some p else rfind (rs.drop (x + 1)) sh := by
  have hx : x < rs.length := by
    rcases Nat.lt_or_ge x rs.length with h9 | h9
    · exact h9
    · rw [List.getElem?_eq_none h9] at h; simp at h
  rw [List.getElem?_eq_getElem hx] at h
  rw [List.drop_eq_getElem_cons hx, Option.some.inj h]
  unfold rfind
  by_cases hp : p.1 = sh
  · rw [if_pos hp, List.find?_cons_of_pos (by simpa using hp)]
  · rw [if_neg hp, List.find?_cons_of_neg (by simpa using hp)]

set_option maxHeartbeats 4000000 in
set_option maxRecDepth 100000 in
theorem c_findResolution {G : ax_G} {T : Nat → Nat} {N : Nat → Int} {I : Nat → Int → Int} {R : Nat → Int → Option Nat} {z : Nat} {g s : Nat} {c : List Int × List Int} {rs : List (List Int × List Int)} (hg : mgT T N R g) (hr : reS T N I R g rs) (hn : rsN rs) (hsh : R g 16 = some s) (hs : shT T N R s) (hc : shS I s c) (hcl : c.1.length ≤ 51) (hcr : ∀ v ∈ c.1, 0 ≤ v ∧ v < 1000) : axEx G YX3_findResolution 1 [vR g] T N I R z (fun r1 I1 => ((rfind rs c.1 = none ∧ r1 = some vN) ∨ ∃ p a, rfind rs c.1 = some p ∧ reO T N I R g a p ∧ r1 = some (vR a)) ∧ I1 = I) := by

  refine ax_enter (by decide) (Nat.le_of_ble_eq_true rfl) (ax_cat rfl) (fun f hC => ?_)
  show axX G f 0 0 _ 0 [vR g, vU, vU] [] T N I R z 0 0
  have h1 := hr.1
  have h8 := hr.2.1
  have loop : ∀ (n : Nat) (x : Int) (c2 : ax_V), (rs.length - x).toNat ≤ n → 0 ≤ x → x ≤ rs.length → rfind (rs.drop x.toNat) c.1 = rfind rs c.1 → axX G f 0 0 (fun r1 T1 N1 I1 R1 z1 => (((rfind rs c.1 = none ∧ r1 = some vN) ∨ ∃ p a, rfind rs c.1 = some p ∧ reO T N I R g a p ∧ r1 = some (vR a)) ∧ I1 = I) ∧ T1 = T ∧ N1 = N ∧ R1 = R ∧ z1 = z) 2 [vR g, vI x, c2] [] T N I R z 0 0 := by
    intro n
    induction n with
    | zero =>
      intro x c2 hn0 h0 h1' hf
      refine x_iload_n (pc := 2) hC dX3_findResolution_2 rfl ?_
      refine x_aload_n (pc := 3) hC dX3_findResolution_3 rfl ?_
      refine x_getI (pc := 4) hC gf_X3_141 dX3_findResolution_4 hg.1 ?_
      refine x_icmp_ge (pc := 7) hC 42 dX3_findResolution_7 (by decide) (by omega) (by omega) (fun b7 => ?_) (fun b7 => ?_)
      · refine x_null (pc := 42) hC dX3_findResolution_42 ?_
        refine x_aret (pc := 43) hC rfl (Or.inl ⟨_, rfl⟩) dX3_findResolution_43 ?_
        refine ⟨⟨Or.inl ⟨?_, rfl⟩, rfl⟩, rfl, rfl, rfl, rfl⟩
        rw [← hf, List.drop_eq_nil_of_le (by omega)]
        rfl
      · omega
    | succ n ih =>
      intro x c2 hn0 h0 h1' hf
      by_cases hxl : x < rs.length
      · obtain ⟨p, hp⟩ : ∃ p, rs[x.toNat]? = some p := ⟨_, List.getElem?_eq_getElem (by omega)⟩
        obtain ⟨a, ha, hO⟩ := hr.2.2 x.toNat p hp
        rw [show ((x.toNat : Nat) : Int) = x by omega] at ha
        obtain ⟨⟨o1, o2⟩, u, v, o3, o4, ⟨o5, o6, o7, o8⟩, o9⟩ := hO
        obtain ⟨m1, m2, m3, m4⟩ := hn p (List.mem_of_getElem? hp)
        rw [rfind_drop hp] at hf
        refine x_iload_n (pc := 2) hC dX3_findResolution_2 rfl ?_
        refine x_aload_n (pc := 3) hC dX3_findResolution_3 rfl ?_
        refine x_getI (pc := 4) hC gf_X3_141 dX3_findResolution_4 hg.1 ?_
        refine x_icmp_ge (pc := 7) hC 42 dX3_findResolution_7 (by decide) (by omega) (by omega) (fun b7 => ?_) (fun b7 => ?_)
        · omega
        · refine x_aload_n (pc := 10) hC dX3_findResolution_10 rfl ?_
          refine x_iload_n (pc := 11) hC dX3_findResolution_11 rfl ?_
          refine x_mV (pc := 12) hC cv_X3_144 dX3_findResolution_12 (c_resolutionAt hg (by omega) (by omega)) hg.1 rfl (by decide) rfl rfl (Nat.le_of_ble_eq_true rfl) ?_
          rw [if_pos (by omega), ha]
          refine x_astore_n (pc := 15) hC dX3_findResolution_15 (Nat.le_of_ble_eq_true rfl) ?_
          dsimp only [List.set]
          refine x_aload_n (pc := 16) hC dX3_findResolution_16 rfl ?_
          refine x_ifnull (pc := 17) hC 36 dX3_findResolution_17 (by decide) (fun h => by cases h) (fun _ _ => ?_)
          refine x_aload_n (pc := 20) hC dX3_findResolution_20 rfl ?_
          refine x_getO (pc := 21) hC gf_X3_63 dX3_findResolution_21 hg.1 hsh ?_
          refine x_aload_n (pc := 24) hC dX3_findResolution_24 rfl ?_
          refine x_getO (pc := 25) hC gf_X3_148 dX3_findResolution_25 o1 o3 ?_
          refine x_mV (pc := 28) hC cv_X3_150 dX3_findResolution_28 (c_equalsNumbers hs hc hcl hcr o5 o6 o7 (by omega) m2) hs.1 rfl (by decide) rfl rfl (Nat.le_of_ble_eq_true rfl) ?_
          refine x_ifB_eq (pc := 31) hC 36 dX3_findResolution_31 (by decide) (fun b31 => ?_) (fun b31 => ?_)
          · refine x_iinc (pc := 36) hC dX3_findResolution_36 rfl ?_
            dsimp only [List.set]
            refine x_goto (pc := 39) hC 2 dX3_findResolution_39 (by decide) ?_
            rw [if_neg (fun e => b31 e.symm)] at hf
            refine ih (x + 1) _ (by omega) (by omega) (by omega) ?_
            rw [show (x + 1).toNat = x.toNat + 1 by omega]
            exact hf
          · refine x_aload_n (pc := 34) hC dX3_findResolution_34 rfl ?_
            refine x_aret (pc := 35) hC rfl (Or.inl ⟨_, rfl⟩) dX3_findResolution_35 ?_
            rw [if_pos b31.symm] at hf
            exact ⟨⟨Or.inr ⟨p, a, hf.symm, ⟨⟨o1, o2⟩, u, v, o3, o4, ⟨o5, o6, o7, o8⟩, o9⟩, rfl⟩, rfl⟩, rfl, rfl, rfl, rfl⟩
      · skip
        refine x_iload_n (pc := 2) hC dX3_findResolution_2 rfl ?_
        refine x_aload_n (pc := 3) hC dX3_findResolution_3 rfl ?_
        refine x_getI (pc := 4) hC gf_X3_141 dX3_findResolution_4 hg.1 ?_
        refine x_icmp_ge (pc := 7) hC 42 dX3_findResolution_7 (by decide) (by omega) (by omega) (fun b7 => ?_) (fun b7 => ?_)
        · refine x_null (pc := 42) hC dX3_findResolution_42 ?_
          refine x_aret (pc := 43) hC rfl (Or.inl ⟨_, rfl⟩) dX3_findResolution_43 ?_
          refine ⟨⟨Or.inl ⟨?_, rfl⟩, rfl⟩, rfl, rfl, rfl, rfl⟩
          rw [← hf, List.drop_eq_nil_of_le (by omega)]
          rfl
        · omega
  refine x_iconst (pc := 0) hC dX3_findResolution_0 ?_
  refine x_istore_n (pc := 1) hC dX3_findResolution_1 (Nat.le_of_ble_eq_true rfl) ?_
  dsimp only [List.set]
  exact loop _ 0 _ (Nat.le_refl _) (by omega) (by omega) rfl

set_option maxHeartbeats 4000000 in
set_option maxRecDepth 100000 in
theorem c_addResolved {G : ax_G} {T : Nat → Nat} {N : Nat → Int} {I : Nat → Int → Int} {R : Nat → Int → Option Nat} {z : Nat} {g s a : Nat} {c p : List Int × List Int} {L : List Int} (hg : mgT T N R g) (hL : rlS I g L) (hsh : R g 16 = some s) (hs : shT T N R s) (hc : shS I s c) (hsg : g + 2 < s) (hO : reO T N I R g a p) (hp6 : p.2.length ≤ 6) (hpr : ∀ v ∈ p.2, (0 ≤ v ∧ v < c.2.length) ∨ (100 ≤ v ∧ v < 200)) (hcl : c.2.length ≤ 48) (h150 : L.length + p.2.length ≤ 150) : axEx G YX3_addResolved 1 [vR g, vR a] T N I R z (fun r1 I1 => r1 = none ∧ rlS I1 g (L ++ rsv c.2 p.2) ∧ rlF I I1 g) := by

  refine ax_enter (by decide) (Nat.le_of_ble_eq_true rfl) (ax_cat rfl) (fun f hC => ?_)
  show axX G f 0 0 _ 0 [vR g, vR a, vU, vU, vU] [] T N I R z 0 0
  obtain ⟨⟨o1, o2⟩, u, v, o3, o4, o5, o6, o7, o8, o9⟩ := hO
  have h3 := hc.2.1
  have loop : ∀ (n : Nat) (x : Int) (J : Nat → Int → Int) (c3 c4 : ax_V), (p.2.length - x).toNat ≤ n → 0 ≤ x → x ≤ p.2.length → rlF I J g → rlS J g (L ++ rsv c.2 (p.2.take x.toNat)) → axX G f 0 0 (fun r1 T1 N1 I1 R1 z1 => (r1 = none ∧ rlS I1 g (L ++ rsv c.2 p.2) ∧ rlF I I1 g) ∧ T1 = T ∧ N1 = N ∧ R1 = R ∧ z1 = z) 2 [vR g, vR a, vI x, c3, c4] [] T N J R z 0 0 := by
    intro n
    induction n with
    | zero =>
      intro x J c3 c4 hn h0 h1 hF hS
      refine x_iload_n (pc := 2) hC dX3_addResolved_2 rfl ?_
      refine x_aload_n (pc := 3) hC dX3_addResolved_3 rfl ?_
      refine x_getO (pc := 4) hC gf_X3_158 dX3_addResolved_4 o1 o4 ?_
      refine x_alen (pc := 7) hC dX3_addResolved_7 (by rw [o6]; decide) (by rw [o6]; decide) ?_
      rw [o7]
      refine x_icmp_ge (pc := 8) hC 71 dX3_addResolved_8 (by decide) (by omega) (by omega) (fun b8 => ?_) (fun b8 => ?_)
      · refine x_vret (pc := 71) hC rfl dX3_addResolved_71 ?_
        have hx : x = p.2.length := by omega
        subst hx
        rw [Int.toNat_natCast, List.take_length] at hS
        exact ⟨⟨rfl, hS, hF⟩, rfl, rfl, rfl, rfl⟩
      · omega
    | succ n ih =>
      intro x J c3 c4 hn h0 h1 hF hS
      have jv : J v = I v := hF.1 v (by omega) (by omega)
      have js : J s = I s := hF.1 s (by omega) (by omega)
      have js2 : J (s + 2) = I (s + 2) := hF.1 (s + 2) (by omega) (by omega)
      have hv9 : x < p.2.length → p.2[x.toNat]? = some (I v x) := fun h => seg_gt o8 h0 h
      have hr9 : x < p.2.length → (0 ≤ I v x ∧ I v x < c.2.length) ∨ (100 ≤ I v x ∧ I v x < 200) := fun h => hpr _ (List.mem_of_getElem? (hv9 h))
      have htl : (p.2.take x.toNat).length = x.toNat := by rw [List.length_take]; omega
      refine x_iload_n (pc := 2) hC dX3_addResolved_2 rfl ?_
      refine x_aload_n (pc := 3) hC dX3_addResolved_3 rfl ?_
      refine x_getO (pc := 4) hC gf_X3_158 dX3_addResolved_4 o1 o4 ?_
      refine x_alen (pc := 7) hC dX3_addResolved_7 (by rw [o6]; decide) (by rw [o6]; decide) ?_
      rw [o7]
      refine x_icmp_ge (pc := 8) hC 71 dX3_addResolved_8 (by decide) (by omega) (by omega) (fun b8 => ?_) (fun b8 => ?_)
      · refine x_vret (pc := 71) hC rfl dX3_addResolved_71 ?_
        have hx : x = p.2.length := by omega
        subst hx
        rw [Int.toNat_natCast, List.take_length] at hS
        exact ⟨⟨rfl, hS, hF⟩, rfl, rfl, rfl, rfl⟩
      · refine x_aload_n (pc := 11) hC dX3_addResolved_11 rfl ?_
        refine x_getO (pc := 12) hC gf_X3_158 dX3_addResolved_12 o1 o4 ?_
        refine x_iload_n (pc := 15) hC dX3_addResolved_15 rfl ?_
        refine x_iald (pc := 16) hC dX3_addResolved_16 o6 (by omega) (by rw [o7]; omega) ?_
        rw [jv]
        have hr1 := hr9 (by omega)
        have hv1 := hv9 (by omega)
        refine x_istore_n (pc := 17) hC dX3_addResolved_17 (Nat.le_of_ble_eq_true rfl) ?_
        dsimp only [List.set]
        refine x_iload_n (pc := 18) hC dX3_addResolved_18 rfl ?_
        refine x_if_lt (pc := 19) hC 37 dX3_addResolved_19 (by decide) (by omega) (fun b19 => ?_) (fun b19 => ?_)
        · refine x_iconst (pc := 37) hC dX3_addResolved_37 ?_
          refine x_istore (pc := 38) hC dX3_addResolved_38 (Nat.le_of_ble_eq_true rfl) ?_
          dsimp only [List.set]
          refine x_aload_n (pc := 40) hC dX3_addResolved_40 rfl ?_
          refine x_iload (pc := 41) hC dX3_addResolved_41 rfl ?_
          refine x_if_eq (pc := 43) hC 58 dX3_addResolved_43 (by decide) (by omega) (fun b43 => ?_) (fun b43 => ?_)
          · refine x_iload_n (pc := 58) hC dX3_addResolved_58 rfl ?_
            refine x_bipush (pc := 59) hC dX3_addResolved_59 (by decide) ?_
            refine x_isub (pc := 61) hC dX3_addResolved_61 ?_
            refine x_mVx (pc := 62) hC cv_X3_101 dX3_addResolved_62 (c_addLine hg hS (by simp only [List.length_append, rsv, List.length_map, htl]; omega)) hg.1 rfl (by decide) rfl rfl (Nat.le_of_ble_eq_true rfl) ?_
            rintro v9 J2 ⟨rfl, hS2, hF2⟩
            dsimp only [Option.toList, List.nil_append]
            refine x_iinc (pc := 65) hC dX3_addResolved_65 rfl ?_
            dsimp only [List.set]
            refine x_goto (pc := 68) hC 2 dX3_addResolved_68 (by decide) ?_
            first
            | (exfalso; omega)
            | (refine ih (x + 1) J2 _ _ (by omega) (by omega) (by omega) (hF.tr hF2) ?_
               rw [take_sn h0 hv1]
               unfold rsv at *
               rw [List.map_append, ← List.append_assoc]
               simp only [List.map_cons, List.map_nil]
               first
               | (rw [if_pos (by omega)]
                  have hn9 := seg_gt hc.2.2 (i := I v x) (by omega) (by omega)
                  rw [List.getD_eq_getElem?_getD, hn9]
                  exact hS2)
               | (rw [if_neg (by omega)]
                  exact hS2))
          · refine x_aload_n (pc := 46) hC dX3_addResolved_46 rfl ?_
            refine x_getO (pc := 47) hC gf_X3_63 dX3_addResolved_47 hg.1 hsh ?_
            refine x_getO (pc := 50) hC gf_X3_162 dX3_addResolved_50 hs.1 hs.2.2.1 ?_
            refine x_iload_n (pc := 53) hC dX3_addResolved_53 rfl ?_
            refine x_iald (pc := 54) hC dX3_addResolved_54 hs.2.2.2.1 (by omega) (by rw [hs.2.2.2.2]; omega) ?_
            rw [js2]
            refine x_goto (pc := 55) hC 62 dX3_addResolved_55 (by decide) ?_
            refine x_mVx (pc := 62) hC cv_X3_101 dX3_addResolved_62 (c_addLine hg hS (by simp only [List.length_append, rsv, List.length_map, htl]; omega)) hg.1 rfl (by decide) rfl rfl (Nat.le_of_ble_eq_true rfl) ?_
            rintro v9 J2 ⟨rfl, hS2, hF2⟩
            dsimp only [Option.toList, List.nil_append]
            refine x_iinc (pc := 65) hC dX3_addResolved_65 rfl ?_
            dsimp only [List.set]
            refine x_goto (pc := 68) hC 2 dX3_addResolved_68 (by decide) ?_
            first
            | (exfalso; omega)
            | (refine ih (x + 1) J2 _ _ (by omega) (by omega) (by omega) (hF.tr hF2) ?_
               rw [take_sn h0 hv1]
               unfold rsv at *
               rw [List.map_append, ← List.append_assoc]
               simp only [List.map_cons, List.map_nil]
               first
               | (rw [if_pos (by omega)]
                  have hn9 := seg_gt hc.2.2 (i := I v x) (by omega) (by omega)
                  rw [List.getD_eq_getElem?_getD, hn9]
                  exact hS2)
               | (rw [if_neg (by omega)]
                  exact hS2))
        · refine x_iload_n (pc := 22) hC dX3_addResolved_22 rfl ?_
          refine x_aload_n (pc := 23) hC dX3_addResolved_23 rfl ?_
          refine x_getO (pc := 24) hC gf_X3_63 dX3_addResolved_24 hg.1 hsh ?_
          refine x_getI (pc := 27) hC gf_X3_159 dX3_addResolved_27 hs.1 ?_
          rw [js, h3]
          refine x_icmp_ge (pc := 30) hC 37 dX3_addResolved_30 (by decide) (by omega) (by omega) (fun b30 => ?_) (fun b30 => ?_)
          · refine x_iconst (pc := 37) hC dX3_addResolved_37 ?_
            refine x_istore (pc := 38) hC dX3_addResolved_38 (Nat.le_of_ble_eq_true rfl) ?_
            dsimp only [List.set]
            refine x_aload_n (pc := 40) hC dX3_addResolved_40 rfl ?_
            refine x_iload (pc := 41) hC dX3_addResolved_41 rfl ?_
            refine x_if_eq (pc := 43) hC 58 dX3_addResolved_43 (by decide) (by omega) (fun b43 => ?_) (fun b43 => ?_)
            · refine x_iload_n (pc := 58) hC dX3_addResolved_58 rfl ?_
              refine x_bipush (pc := 59) hC dX3_addResolved_59 (by decide) ?_
              refine x_isub (pc := 61) hC dX3_addResolved_61 ?_
              refine x_mVx (pc := 62) hC cv_X3_101 dX3_addResolved_62 (c_addLine hg hS (by simp only [List.length_append, rsv, List.length_map, htl]; omega)) hg.1 rfl (by decide) rfl rfl (Nat.le_of_ble_eq_true rfl) ?_
              rintro v9 J2 ⟨rfl, hS2, hF2⟩
              dsimp only [Option.toList, List.nil_append]
              refine x_iinc (pc := 65) hC dX3_addResolved_65 rfl ?_
              dsimp only [List.set]
              refine x_goto (pc := 68) hC 2 dX3_addResolved_68 (by decide) ?_
              first
              | (exfalso; omega)
              | (refine ih (x + 1) J2 _ _ (by omega) (by omega) (by omega) (hF.tr hF2) ?_
                 rw [take_sn h0 hv1]
                 unfold rsv at *
                 rw [List.map_append, ← List.append_assoc]
                 simp only [List.map_cons, List.map_nil]
                 first
                 | (rw [if_pos (by omega)]
                    have hn9 := seg_gt hc.2.2 (i := I v x) (by omega) (by omega)
                    rw [List.getD_eq_getElem?_getD, hn9]
                    exact hS2)
                 | (rw [if_neg (by omega)]
                    exact hS2))
            · refine x_aload_n (pc := 46) hC dX3_addResolved_46 rfl ?_
              refine x_getO (pc := 47) hC gf_X3_63 dX3_addResolved_47 hg.1 hsh ?_
              refine x_getO (pc := 50) hC gf_X3_162 dX3_addResolved_50 hs.1 hs.2.2.1 ?_
              refine x_iload_n (pc := 53) hC dX3_addResolved_53 rfl ?_
              refine x_iald (pc := 54) hC dX3_addResolved_54 hs.2.2.2.1 (by omega) (by rw [hs.2.2.2.2]; omega) ?_
              rw [js2]
              refine x_goto (pc := 55) hC 62 dX3_addResolved_55 (by decide) ?_
              refine x_mVx (pc := 62) hC cv_X3_101 dX3_addResolved_62 (c_addLine hg hS (by simp only [List.length_append, rsv, List.length_map, htl]; omega)) hg.1 rfl (by decide) rfl rfl (Nat.le_of_ble_eq_true rfl) ?_
              rintro v9 J2 ⟨rfl, hS2, hF2⟩
              dsimp only [Option.toList, List.nil_append]
              refine x_iinc (pc := 65) hC dX3_addResolved_65 rfl ?_
              dsimp only [List.set]
              refine x_goto (pc := 68) hC 2 dX3_addResolved_68 (by decide) ?_
              first
              | (exfalso; omega)
              | (refine ih (x + 1) J2 _ _ (by omega) (by omega) (by omega) (hF.tr hF2) ?_
                 rw [take_sn h0 hv1]
                 unfold rsv at *
                 rw [List.map_append, ← List.append_assoc]
                 simp only [List.map_cons, List.map_nil]
                 first
                 | (rw [if_pos (by omega)]
                    have hn9 := seg_gt hc.2.2 (i := I v x) (by omega) (by omega)
                    rw [List.getD_eq_getElem?_getD, hn9]
                    exact hS2)
                 | (rw [if_neg (by omega)]
                    exact hS2))
          · refine x_iconst (pc := 33) hC dX3_addResolved_33 ?_
            refine x_goto (pc := 34) hC 38 dX3_addResolved_34 (by decide) ?_
            refine x_istore (pc := 38) hC dX3_addResolved_38 (Nat.le_of_ble_eq_true rfl) ?_
            dsimp only [List.set]
            refine x_aload_n (pc := 40) hC dX3_addResolved_40 rfl ?_
            refine x_iload (pc := 41) hC dX3_addResolved_41 rfl ?_
            refine x_if_eq (pc := 43) hC 58 dX3_addResolved_43 (by decide) (by omega) (fun b43 => ?_) (fun b43 => ?_)
            · refine x_iload_n (pc := 58) hC dX3_addResolved_58 rfl ?_
              refine x_bipush (pc := 59) hC dX3_addResolved_59 (by decide) ?_
              refine x_isub (pc := 61) hC dX3_addResolved_61 ?_
              refine x_mVx (pc := 62) hC cv_X3_101 dX3_addResolved_62 (c_addLine hg hS (by simp only [List.length_append, rsv, List.length_map, htl]; omega)) hg.1 rfl (by decide) rfl rfl (Nat.le_of_ble_eq_true rfl) ?_
              rintro v9 J2 ⟨rfl, hS2, hF2⟩
              dsimp only [Option.toList, List.nil_append]
              refine x_iinc (pc := 65) hC dX3_addResolved_65 rfl ?_
              dsimp only [List.set]
              refine x_goto (pc := 68) hC 2 dX3_addResolved_68 (by decide) ?_
              first
              | (exfalso; omega)
              | (refine ih (x + 1) J2 _ _ (by omega) (by omega) (by omega) (hF.tr hF2) ?_
                 rw [take_sn h0 hv1]
                 unfold rsv at *
                 rw [List.map_append, ← List.append_assoc]
                 simp only [List.map_cons, List.map_nil]
                 first
                 | (rw [if_pos (by omega)]
                    have hn9 := seg_gt hc.2.2 (i := I v x) (by omega) (by omega)
                    rw [List.getD_eq_getElem?_getD, hn9]
                    exact hS2)
                 | (rw [if_neg (by omega)]
                    exact hS2))
            · refine x_aload_n (pc := 46) hC dX3_addResolved_46 rfl ?_
              refine x_getO (pc := 47) hC gf_X3_63 dX3_addResolved_47 hg.1 hsh ?_
              refine x_getO (pc := 50) hC gf_X3_162 dX3_addResolved_50 hs.1 hs.2.2.1 ?_
              refine x_iload_n (pc := 53) hC dX3_addResolved_53 rfl ?_
              refine x_iald (pc := 54) hC dX3_addResolved_54 hs.2.2.2.1 (by omega) (by rw [hs.2.2.2.2]; omega) ?_
              rw [js2]
              refine x_goto (pc := 55) hC 62 dX3_addResolved_55 (by decide) ?_
              refine x_mVx (pc := 62) hC cv_X3_101 dX3_addResolved_62 (c_addLine hg hS (by simp only [List.length_append, rsv, List.length_map, htl]; omega)) hg.1 rfl (by decide) rfl rfl (Nat.le_of_ble_eq_true rfl) ?_
              rintro v9 J2 ⟨rfl, hS2, hF2⟩
              dsimp only [Option.toList, List.nil_append]
              refine x_iinc (pc := 65) hC dX3_addResolved_65 rfl ?_
              dsimp only [List.set]
              refine x_goto (pc := 68) hC 2 dX3_addResolved_68 (by decide) ?_
              first
              | (exfalso; omega)
              | (refine ih (x + 1) J2 _ _ (by omega) (by omega) (by omega) (hF.tr hF2) ?_
                 rw [take_sn h0 hv1]
                 unfold rsv at *
                 rw [List.map_append, ← List.append_assoc]
                 simp only [List.map_cons, List.map_nil]
                 first
                 | (rw [if_pos (by omega)]
                    have hn9 := seg_gt hc.2.2 (i := I v x) (by omega) (by omega)
                    rw [List.getD_eq_getElem?_getD, hn9]
                    exact hS2)
                 | (rw [if_neg (by omega)]
                    exact hS2))
  refine x_iconst (pc := 0) hC dX3_addResolved_0 ?_
  refine x_istore_n (pc := 1) hC dX3_addResolved_1 (Nat.le_of_ble_eq_true rfl) ?_
  dsimp only [List.set]
  exact loop _ 0 I _ _ (Nat.le_refl _) (by omega) (by omega) rlF.rf (by simpa [rsv] using hL)

