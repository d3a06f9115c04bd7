/-! THE CLASS: the merger's result and resolutions -/
def reO (T : Nat → Nat) (N : Nat → Int) (I : Nat → Int → Int) (R : Nat → Int → Option Nat) (g a : Nat) (p : List Int × List Int) : Prop := (T a = 7 ∧ (a < g ∨ g + 93 ≤ a)) ∧ ∃ u v, R a 0 = some u ∧ R a 1 = some v ∧ (T u = 13 ∧ N u = p.1.length ∧ seg (I u) 0 p.1.length = p.1 ∧ (u < g ∨ g + 93 ≤ u)) ∧ T v = 13 ∧ N v = p.2.length ∧ seg (I v) 0 p.2.length = p.2 ∧ (v < g ∨ g + 93 ≤ v)
def reS (T : Nat → Nat) (N : Nat → Int) (I : Nat → Int → Int) (R : Nat → Int → Option Nat) (g : Nat) (rs : List (List Int × List Int)) : Prop := I g 1 = rs.length ∧ rs.length ≤ 8 ∧ ∀ (k : Nat) (p : List Int × List Int), rs[k]? = some p → ∃ a, R (g + 1) k = some a ∧ reO T N I R g a p
theorem reO_fr {T : Nat → Nat} {N : Nat → Int} {I J : Nat → Int → Int} {R S : Nat → Int → Option Nat} {g a : Nat} {p : List Int × List Int} (h : reO T N I R g a p) (hJ : ∀ q, q < g ∨ g + 93 ≤ q → J q = I q) (hS : ∀ q, q < g ∨ g + 93 ≤ q → S q = R q) : reO T N J S g a p := by
  obtain ⟨⟨h1, h2⟩, u, v, h3, h4, ⟨h5, h6, h7, h8⟩, h9, h10, h11, h12⟩ := h
  exact ⟨⟨h1, h2⟩, u, v, by rw [hS a h2]; exact h3, by rw [hS a h2]; exact h4, ⟨h5, h6, by rw [hJ u h8]; exact h7, h8⟩, h9, h10, by rw [hJ v h12]; exact h11, h12⟩
theorem reS_fr {T : Nat → Nat} {N : Nat → Int} {I J : Nat → Int → Int} {R S : Nat → Int → Option Nat} {g : Nat} {rs : List (List Int × List Int)} (h : reS T N I R g rs) (h1 : J g 1 = I g 1) (hJ : ∀ q, q < g ∨ g + 93 ≤ q → J q = I q) (hS : ∀ q, q < g ∨ g + 93 ≤ q → S q = R q) (hg : S (g + 1) = R (g + 1)) : reS T N J S g rs :=
  ⟨h1.trans h.1, h.2.1, fun k p hk => by
    obtain ⟨a, a1, a2⟩ := h.2.2 k p hk
    exact ⟨a, by rw [hg]; exact a1, reO_fr a2 hJ hS⟩⟩
/-- numbers of resolutions as they are -/
def rsN (rs : List (List Int × List Int)) : Prop := ∀ p ∈ rs, p.1.length ≤ 51 ∧ (∀ v ∈ p.1, 0 ≤ v ∧ v < 1000) ∧ p.2.length ≤ 6 ∧ ∀ v ∈ p.2, 0 ≤ v ∧ v < 200

set_option maxHeartbeats 4000000 in
set_option maxRecDepth 100000 in
theorem c_addLine {G : ax_G} {T : Nat → Nat} {N : Nat → Int} {I : Nat → Int → Int} {R : Nat → Int → Option Nat} {z : Nat} {g : Nat} {v : Int} {L : List Int} (hg : mgT T N R g) (hL : rlS I g L) (h150 : L.length < 150) : axEx G YX3_addLine 0 [vR g, vI v] T N I R z (fun r1 I1 => r1 = none ∧ rlS I1 g (L ++ [v]) ∧ rlF I I1 g) := by

  refine ax_enter (by decide) (Nat.le_of_ble_eq_true rfl) (ax_cat rfl) (fun f hC => ?_)
  show axX G f 0 0 _ 0 [vR g, vI v] [] T N I R z 0 0
  have h3 := hL.1
  refine x_aload_n (pc := 0) hC dX3_addLine_0 rfl ?_
  refine x_getI (pc := 1) hC gf_X3_70 dX3_addLine_1 hg.1 ?_
  refine x_aload_n (pc := 4) hC dX3_addLine_4 rfl ?_
  refine x_getO (pc := 5) hC gf_X3_17 dX3_addLine_5 hg.1 hg.2.2.1.1 ?_
  refine x_alen (pc := 8) hC dX3_addLine_8 (by rw [hg.2.2.1.2.1]; decide) (by rw [hg.2.2.1.2.1]; decide) ?_
  rw [hg.2.2.1.2.2]
  refine x_icmp_ge (pc := 9) hC 32 dX3_addLine_9 (by decide) (by omega) (by omega) (fun b9 => ?_) (fun b9 => ?_)
  · refine x_vret (pc := 32) hC rfl dX3_addLine_32 ?_
    first
    | (exfalso; omega)
    | (rw [axu_a (show g ≠ g + 2 by omega)]
       exact ⟨⟨rfl, rlS_push hL rfl, fun q a b => by rw [axu_row a, axu_row b], fun k a => by rw [axu_j a, axu_a (by omega)]⟩, rfl, rfl, rfl, rfl⟩)
  · refine x_aload_n (pc := 12) hC dX3_addLine_12 rfl ?_
    refine x_getO (pc := 13) hC gf_X3_17 dX3_addLine_13 hg.1 hg.2.2.1.1 ?_
    refine x_aload_n (pc := 16) hC dX3_addLine_16 rfl ?_
    refine x_getI (pc := 17) hC gf_X3_70 dX3_addLine_17 hg.1 ?_
    refine x_iload_n (pc := 20) hC dX3_addLine_20 rfl ?_
    refine x_iast (pc := 21) hC dX3_addLine_21 hg.2.2.1.2.1 (by omega) (by rw [hg.2.2.1.2.2]; omega) ?_
    refine x_aload_n (pc := 22) hC dX3_addLine_22 rfl ?_
    refine x_dup (pc := 23) hC dX3_addLine_23 rfl ?_
    refine x_getI (pc := 24) hC gf_X3_70 dX3_addLine_24 hg.1 ?_
    refine x_iconst (pc := 27) hC dX3_addLine_27 ?_
    refine x_iadd (pc := 28) hC dX3_addLine_28 ?_
    refine x_putI (pc := 29) hC pf_X3_70 dX3_addLine_29 hg.1 (by decide) ?_
    refine x_vret (pc := 32) hC rfl dX3_addLine_32 ?_
    first
    | (exfalso; omega)
    | (rw [axu_a (show g ≠ g + 2 by omega)]
       exact ⟨⟨rfl, rlS_push hL rfl, fun q a b => by rw [axu_row a, axu_row b], fun k a => by rw [axu_j a, axu_a (by omega)]⟩, rfl, rfl, rfl, rfl⟩)

set_option maxHeartbeats 4000000 in
set_option maxRecDepth 100000 in
theorem c_addLines {G : ax_G} {T : Nat → Nat} {N : Nat → Int} {I : Nat → Int → Int} {R : Nat → Int → Option Nat} {z : Nat} {g p : Nat} {L M : List Int} (hg : mgT T N R g) (hL : rlS I g L) (hp : ptS T N I R p M) (hM : isLn M) (h150 : L.length + M.length ≤ 150) (hpg : p ≠ g ∧ p ≠ g + 2) (hrg : ∀ r, R p 0 = some r → r ≠ g ∧ r ≠ g + 2) : axEx G YX3_addLines 1 [vR g, vR p] T N I R z (fun r1 I1 => r1 = none ∧ rlS I1 g (L ++ M) ∧ rlF I I1 g) := by

  refine ax_enter (by decide) (Nat.le_of_ble_eq_true rfl) (ax_cat rfl) (fun f hC => ?_)
  show axX G f 0 0 _ 0 [vR g, vR p, vU] [] T N I R z 0 0
  have hpt := hp.1
  have hlen := ptS_len hp
  have loop : ∀ (n : Nat) (x : Int) (J : Nat → Int → Int), (M.length - x).toNat ≤ n → 0 ≤ x → x ≤ M.length → rlF I J g → rlS J g (L ++ M.take x.toNat) → axX G f 0 0 (fun r1 T1 N1 I1 R1 z1 => (r1 = none ∧ rlS I1 g (L ++ M) ∧ rlF I I1 g) ∧ T1 = T ∧ N1 = N ∧ R1 = R ∧ z1 = z) 2 [vR g, vR p, vI x] [] T N J R z 0 0 := by
    intro n
    induction n with
    | zero =>
      intro x J hn h0 h1 hF hS
      have jp : J p = I p := hF.1 p hpg.1 hpg.2
      refine x_iload_n (pc := 2) hC dX3_addLines_2 rfl ?_
      refine x_aload_n (pc := 3) hC dX3_addLines_3 rfl ?_
      refine x_getI (pc := 4) hC gf_X3_130 dX3_addLines_4 hpt ?_
      rw [jp]
      refine x_icmp_ge (pc := 7) hC 25 dX3_addLines_7 (by decide) (by omega) (by omega) (fun b7 => ?_) (fun b7 => ?_)
      · refine x_vret (pc := 25) hC rfl dX3_addLines_25 ?_
        have hx : x = M.length := by omega
        subst hx
        rw [Int.toNat_natCast, List.take_length] at hS
        exact ⟨⟨rfl, hS, hF⟩, rfl, rfl, rfl, rfl⟩
      · omega
    | succ n ih =>
      intro x J hn h0 h1 hF hS
      have jp : J p = I p := hF.1 p hpg.1 hpg.2
      have hpJ : ptS T N J R p M := ptS_fr hp jp rfl (fun r hr => hF.1 r (hrg r hr).1 (hrg r hr).2)
      have htl : (M.take x.toNat).length = x.toNat := by rw [List.length_take]; omega
      refine x_iload_n (pc := 2) hC dX3_addLines_2 rfl ?_
      refine x_aload_n (pc := 3) hC dX3_addLines_3 rfl ?_
      refine x_getI (pc := 4) hC gf_X3_130 dX3_addLines_4 hpt ?_
      rw [jp]
      refine x_icmp_ge (pc := 7) hC 25 dX3_addLines_7 (by decide) (by omega) (by omega) (fun b7 => ?_) (fun b7 => ?_)
      · refine x_vret (pc := 25) hC rfl dX3_addLines_25 ?_
        have hx : x = M.length := by omega
        subst hx
        rw [Int.toNat_natCast, List.take_length] at hS
        exact ⟨⟨rfl, hS, hF⟩, rfl, rfl, rfl, rfl⟩
      · refine x_aload_n (pc := 10) hC dX3_addLines_10 rfl ?_
        refine x_aload_n (pc := 11) hC dX3_addLines_11 rfl ?_
        refine x_iload_n (pc := 12) hC dX3_addLines_12 rfl ?_
        refine x_mV (pc := 13) hC cv_X3_154 dX3_addLines_13 (c_lineAt hpJ (by omega) h0) hpt rfl (by decide) rfl rfl (Nat.le_of_ble_eq_true rfl) ?_
        refine x_mVx (pc := 16) hC cv_X3_101 dX3_addLines_16 (c_addLine hg hS (by rw [List.length_append, htl]; omega)) hg.1 rfl (by decide) rfl rfl (Nat.le_of_ble_eq_true rfl) ?_
        rintro v J2 ⟨rfl, hS2, hF2⟩
        dsimp only [Option.toList, List.nil_append]
        refine x_iinc (pc := 19) hC dX3_addLines_19 rfl ?_
        dsimp only [List.set]
        refine x_goto (pc := 22) hC 2 dX3_addLines_22 (by decide) ?_
        have hxm : x < M.length := by omega
        have hv : M[x.toNat]? = some (atO M x) := by
          unfold atO
          rw [if_pos hxm, List.getD_eq_getElem?_getD, List.getElem?_eq_getElem (by omega)]
          rfl
        refine ih (x + 1) J2 (by omega) (by omega) (by omega) (hF.tr hF2) ?_
        rw [take_sn h0 hv, ← List.append_assoc]
        exact hS2
  refine x_iconst (pc := 0) hC dX3_addLines_0 ?_
  refine x_istore_n (pc := 1) hC dX3_addLines_1 (Nat.le_of_ble_eq_true rfl) ?_
  dsimp only [List.set]
  exact loop _ 0 I (Nat.le_refl _) (by omega) (by omega) rlF.rf (by simpa using hL)

set_option maxHeartbeats 4000000 in
set_option maxRecDepth 100000 in
theorem c_resultLine {G : ax_G} {T : Nat → Nat} {N : Nat → Int} {I : Nat → Int → Int} {R : Nat → Int → Option Nat} {z : Nat} {g : Nat} {i : Int} {L : List Int} (hg : mgT T N R g) (hL : rlS I g L) (h150 : L.length ≤ 150) (h0 : 0 ≤ i) (hi : ax_r i) : axE G YX3_resultLine 0 [vR g, vI i] T N I R z (some (vI (atO L i))) I := by

  refine ax_enter (by decide) (Nat.le_of_ble_eq_true rfl) (ax_cat rfl) (fun f hC => ?_)
  show axX G f 0 0 _ 0 [vR g, vI i] [] T N I R z 0 0
  have h1 := hL.1
  have ha := atO_seg (f := I (g + 2)) (i := 0) (j := L.length) (k := i) (by omega) h0
  rw [hL.2, Int.zero_add, Int.sub_zero] at ha
  refine x_iload_n (pc := 0) hC dX3_resultLine_0 rfl ?_
  refine x_if_lt (pc := 1) hC 21 dX3_resultLine_1 (by decide) (by omega) (fun b1 => ?_) (fun b1 => ?_)
  · refine x_bipush (pc := 21) hC dX3_resultLine_21 (by decide) ?_
    refine x_iret (pc := 23) hC rfl dX3_resultLine_23 ?_
    refine ⟨?_, rfl, rfl, rfl, rfl, rfl⟩
    rw [ha]
    first
    | (rw [if_pos (by omega)]; done)
    | (rw [if_neg (by omega)]; done)
    | (exfalso; omega)
  · refine x_iload_n (pc := 4) hC dX3_resultLine_4 rfl ?_
    refine x_aload_n (pc := 5) hC dX3_resultLine_5 rfl ?_
    refine x_getI (pc := 6) hC gf_X3_70 dX3_resultLine_6 hg.1 ?_
    refine x_icmp_ge (pc := 9) hC 21 dX3_resultLine_9 (by decide) (by omega) (by omega) (fun b9 => ?_) (fun b9 => ?_)
    · refine x_bipush (pc := 21) hC dX3_resultLine_21 (by decide) ?_
      refine x_iret (pc := 23) hC rfl dX3_resultLine_23 ?_
      refine ⟨?_, rfl, rfl, rfl, rfl, rfl⟩
      rw [ha]
      first
      | (rw [if_pos (by omega)]; done)
      | (rw [if_neg (by omega)]; done)
      | (exfalso; omega)
    · refine x_aload_n (pc := 12) hC dX3_resultLine_12 rfl ?_
      refine x_getO (pc := 13) hC gf_X3_17 dX3_resultLine_13 hg.1 hg.2.2.1.1 ?_
      refine x_iload_n (pc := 16) hC dX3_resultLine_16 rfl ?_
      refine x_iald (pc := 17) hC dX3_resultLine_17 hg.2.2.1.2.1 (by omega) (by rw [hg.2.2.1.2.2]; omega) ?_
      refine x_goto (pc := 18) hC 23 dX3_resultLine_18 (by decide) ?_
      refine x_iret (pc := 23) hC rfl dX3_resultLine_23 ?_
      refine ⟨?_, rfl, rfl, rfl, rfl, rfl⟩
      rw [ha]
      first
      | (rw [if_pos (by omega)]; done)
      | (rw [if_neg (by omega)]; done)
      | (exfalso; omega)

set_option maxHeartbeats 4000000 in
set_option maxRecDepth 100000 in
theorem c_resultEquals {G : ax_G} {T : Nat → Nat} {N : Nat → Int} {I : Nat → Int → Int} {R : Nat → Int → Option Nat} {z : Nat} {g r : Nat} {L l : List Int} (hg : mgT T N R g) (hL : rlS I g L) (h150 : L.length ≤ 150) (hLn : isLn L) (hr : T r = 13) (hrn : N r = l.length) (hrl : seg (I r) 0 l.length = l) (hll : l.length ≤ 100) (hlr : isLn l) : axE G YX3_resultEquals 0 [vR g, vR r] T N I R z (some (vI (bI (L = l)))) I := by

  refine ax_enter (by decide) (Nat.le_of_ble_eq_true rfl) (ax_cat rfl) (fun f hC => ?_)
  show axX G f 0 0 _ 0 [vR g, vR r, vU] [] T N I R z 0 0
  have h1 := hL.1
  have loop : L.length = l.length → ∀ (n : Nat) (x : Int), (l.length - x).toNat ≤ n → 0 ≤ x → x ≤ l.length → (∀ j : Nat, j < x → L[j]? = l[j]?) → axX G f 0 0 (fun r1 T1 N1 I1 R1 z1 => r1 = some (vI (bI (L = l))) ∧ T1 = T ∧ N1 = N ∧ I1 = I ∧ R1 = R ∧ z1 = z) 13 [vR g, vR r, vI x] [] T N I R z 0 0 := by
    intro hlen n
    have hyes : (∀ j : Nat, j < l.length → L[j]? = l[j]?) → L = l := fun h => by
      apply List.ext_getElem?
      intro j
      by_cases hj : j < l.length
      · exact h j hj
      · rw [List.getElem?_eq_none (by omega), List.getElem?_eq_none (by omega)]
    induction n with
    | zero =>
      intro x hn h0 h1' hj
      refine x_iload_n (pc := 13) hC dX3_resultEquals_13 rfl ?_
      refine x_aload_n (pc := 14) hC dX3_resultEquals_14 rfl ?_
      refine x_getI (pc := 15) hC gf_X3_70 dX3_resultEquals_15 hg.1 ?_
      refine x_icmp_ge (pc := 18) hC 41 dX3_resultEquals_18 (by decide) (by omega) (by omega) (fun b18 => ?_) (fun b18 => ?_)
      · refine x_iconst (pc := 41) hC dX3_resultEquals_41 ?_
        refine x_zret (pc := 42) hC rfl dX3_resultEquals_42 (Or.inr rfl) ?_
        exact ⟨by rw [bI_t (hyes (fun j h => hj j (by omega)))], rfl, rfl, rfl, rfl, rfl⟩
      · omega
    | succ n ih =>
      intro x hn h0 h1' hj
      have hx1 : x < l.length → L[x.toNat]? = some (I (g + 2) x) := fun h => seg_gt hL.2 h0 (by omega)
      have hx2 : x < l.length → l[x.toNat]? = some (I r x) := fun h => seg_gt hrl h0 h
      refine x_iload_n (pc := 13) hC dX3_resultEquals_13 rfl ?_
      refine x_aload_n (pc := 14) hC dX3_resultEquals_14 rfl ?_
      refine x_getI (pc := 15) hC gf_X3_70 dX3_resultEquals_15 hg.1 ?_
      refine x_icmp_ge (pc := 18) hC 41 dX3_resultEquals_18 (by decide) (by omega) (by omega) (fun b18 => ?_) (fun b18 => ?_)
      · refine x_iconst (pc := 41) hC dX3_resultEquals_41 ?_
        refine x_zret (pc := 42) hC rfl dX3_resultEquals_42 (Or.inr rfl) ?_
        exact ⟨by rw [bI_t (hyes (fun j h => hj j (by omega)))], rfl, rfl, rfl, rfl, rfl⟩
      · refine x_aload_n (pc := 21) hC dX3_resultEquals_21 rfl ?_
        refine x_getO (pc := 22) hC gf_X3_17 dX3_resultEquals_22 hg.1 hg.2.2.1.1 ?_
        refine x_iload_n (pc := 25) hC dX3_resultEquals_25 rfl ?_
        refine x_iald (pc := 26) hC dX3_resultEquals_26 hg.2.2.1.2.1 (by omega) (by rw [hg.2.2.1.2.2]; omega) ?_
        refine x_aload_n (pc := 27) hC dX3_resultEquals_27 rfl ?_
        refine x_iload_n (pc := 28) hC dX3_resultEquals_28 rfl ?_
        refine x_iald (pc := 29) hC dX3_resultEquals_29 hr (by omega) (by rw [hrn]; omega) ?_
        have e1 := hx1 (by omega)
        have e2 := hx2 (by omega)
        have r1 := hLn _ (List.mem_of_getElem? e1)
        have r2 := hlr _ (List.mem_of_getElem? e2)
        refine x_icmp_eq (pc := 30) hC 35 dX3_resultEquals_30 (by decide) (by omega) (by omega) (fun b30 => ?_) (fun b30 => ?_)
        · refine x_iinc (pc := 35) hC dX3_resultEquals_35 rfl ?_
          dsimp only [List.set]
          refine x_goto (pc := 38) hC 13 dX3_resultEquals_38 (by decide) ?_
          refine ih (x + 1) (by omega) (by omega) (by omega) (fun j hjx => ?_)
          by_cases hq9 : j = x.toNat
          · rw [hq9, e1, e2]; congr 1
          · exact hj j (by omega)
        · refine x_iconst (pc := 33) hC dX3_resultEquals_33 ?_
          refine x_zret (pc := 34) hC rfl dX3_resultEquals_34 (Or.inl rfl) ?_
          exact ⟨by rw [bI_f (fun h => b30 (by rw [h, e2] at e1; exact (Option.some.inj e1).symm))], rfl, rfl, rfl, rfl, rfl⟩
  refine x_aload_n (pc := 0) hC dX3_resultEquals_0 rfl ?_
  refine x_getI (pc := 1) hC gf_X3_70 dX3_resultEquals_1 hg.1 ?_
  refine x_aload_n (pc := 4) hC dX3_resultEquals_4 rfl ?_
  refine x_alen (pc := 5) hC dX3_resultEquals_5 (by rw [hr]; decide) (by rw [hr]; decide) ?_
  rw [hrn]
  refine x_icmp_eq (pc := 6) hC 11 dX3_resultEquals_6 (by decide) (by omega) (by omega) (fun b6 => ?_) (fun b6 => ?_)
  · refine x_iconst (pc := 11) hC dX3_resultEquals_11 ?_
    refine x_istore_n (pc := 12) hC dX3_resultEquals_12 (Nat.le_of_ble_eq_true rfl) ?_
    dsimp only [List.set]
    exact loop (by omega) _ 0 (Nat.le_refl _) (by omega) (by omega) (fun j h => by omega)
  · refine x_iconst (pc := 9) hC dX3_resultEquals_9 ?_
    refine x_zret (pc := 10) hC rfl dX3_resultEquals_10 (Or.inl rfl) ?_
    exact ⟨by rw [bI_f (fun h => by rw [h] at h1; omega)], rfl, rfl, rfl, rfl, rfl⟩

set_option maxHeartbeats 4000000 in
set_option maxRecDepth 100000 in
theorem c_resolutionAt {G : ax_G} {T : Nat → Nat} {N : Nat → Int} {I : Nat → Int → Int} {R : Nat → Int → Option Nat} {z : Nat} {g : Nat} {k : Int} (hg : mgT T N R g) (h1 : 0 ≤ I g 1 ∧ I g 1 ≤ 8) (hk : ax_r k) : axE G YX3_resolutionAt 0 [vR g, vI k] T N I R z (some (vO (if 0 ≤ k ∧ k < I g 1 then R (g + 1) k else none))) I := by

  refine ax_enter (by decide) (Nat.le_of_ble_eq_true rfl) (ax_cat rfl) (fun f hC => ?_)
  show axX G f 0 0 _ 0 [vR g, vI k] [] T N I R z 0 0
  refine x_iload_n (pc := 0) hC dX3_resolutionAt_0 rfl ?_
  refine x_if_lt (pc := 1) hC 21 dX3_resolutionAt_1 (by decide) (by omega) (fun b1 => ?_) (fun b1 => ?_)
  · refine x_null (pc := 21) hC dX3_resolutionAt_21 ?_
    refine x_aret (pc := 22) hC rfl (Or.inl ⟨_, rfl⟩) dX3_resolutionAt_22 ?_
    first
    | exact ⟨by rw [if_pos (by omega)], rfl, rfl, rfl, rfl, rfl⟩
    | exact ⟨by rw [if_neg (by omega)], rfl, rfl, rfl, rfl, rfl⟩
    | (exfalso; omega)
  · refine x_iload_n (pc := 4) hC dX3_resolutionAt_4 rfl ?_
    refine x_aload_n (pc := 5) hC dX3_resolutionAt_5 rfl ?_
    refine x_getI (pc := 6) hC gf_X3_141 dX3_resolutionAt_6 hg.1 ?_
    refine x_icmp_ge (pc := 9) hC 21 dX3_resolutionAt_9 (by decide) (by omega) (by omega) (fun b9 => ?_) (fun b9 => ?_)
    · refine x_null (pc := 21) hC dX3_resolutionAt_21 ?_
      refine x_aret (pc := 22) hC rfl (Or.inl ⟨_, rfl⟩) dX3_resolutionAt_22 ?_
      first
      | exact ⟨by rw [if_pos (by omega)], rfl, rfl, rfl, rfl, rfl⟩
      | exact ⟨by rw [if_neg (by omega)], rfl, rfl, rfl, rfl, rfl⟩
      | (exfalso; omega)
    · refine x_aload_n (pc := 12) hC dX3_resolutionAt_12 rfl ?_
      refine x_getO (pc := 13) hC gf_X3_11 dX3_resolutionAt_13 hg.1 hg.2.1.1 ?_
      refine x_iload_n (pc := 16) hC dX3_resolutionAt_16 rfl ?_
      refine x_aald (pc := 17) hC axEl_16 dX3_resolutionAt_17 hg.2.1.2.1 (by omega) (by rw [hg.2.1.2.2]; omega) rfl ?_
      refine x_goto (pc := 18) hC 22 dX3_resolutionAt_18 (by decide) ?_
      refine x_aret (pc := 22) hC rfl (Or.inl ⟨_, rfl⟩) dX3_resolutionAt_22 ?_
      first
      | exact ⟨by rw [if_pos (by omega)], rfl, rfl, rfl, rfl, rfl⟩
      | exact ⟨by rw [if_neg (by omega)], rfl, rfl, rfl, rfl, rfl⟩
      | (exfalso; omega)

set_option maxHeartbeats 4000000 in
set_option maxRecDepth 100000 in
theorem c_takeClean {G : ax_G} {T : Nat → Nat} {N : Nat → Int} {I : Nat → Int → Int} {R : Nat → Int → Option Nat} {z : Nat} {g : Nat} {L B O Th : List Int} (hg : mgT T N R g) (hL : rlS I g L) (hb : ptS T N I R (g + 81) B) (ho : ptS T N I R (g + 82) O) (ht : ptS T N I R (g + 83) Th) (lb : isLn B) (lo : isLn O) (lt : isLn Th) (h1 : L.length + O.length ≤ 150) (h2 : L.length + Th.length ≤ 150) (hro : ∀ r, R (g + 82) 0 = some r → r ≠ g ∧ r ≠ g + 2) (hrt : ∀ r, R (g + 83) 0 = some r → r ≠ g ∧ r ≠ g + 2) : axEx G YX3_takeCleanGap 2 [vR g] T N I R z (fun r1 I1 => r1 = some (vI (if O = B then (L ++ Th, 1) else if Th = B ∨ Th = O then (L ++ O, 1) else (L, 0) : List Int × Int).2) ∧ rlS I1 g (if O = B then (L ++ Th, 1) else if Th = B ∨ Th = O then (L ++ O, 1) else (L, 0) : List Int × Int).1 ∧ rlF I I1 g) := by

  refine ax_enter (by decide) (Nat.le_of_ble_eq_true rfl) (ax_cat rfl) (fun f hC => ?_)
  show axX G f 0 0 _ 0 [vR g] [] T N I R z 0 0
  refine x_aload_n (pc := 0) hC dX3_takeCleanGap_0 rfl ?_
  refine x_getO (pc := 1) hC gf_X3_38 dX3_takeCleanGap_1 hg.1 hg.2.2.2.2.2.2.1.1 ?_
  refine x_aload_n (pc := 4) hC dX3_takeCleanGap_4 rfl ?_
  refine x_getO (pc := 5) hC gf_X3_34 dX3_takeCleanGap_5 hg.1 hg.2.2.2.2.2.1.1 ?_
  refine x_mV (pc := 8) hC cv_X3_104 dX3_takeCleanGap_8 (c_equalsPart ho hb lo lb) hg.2.2.2.2.2.2.1.2 rfl (by decide) rfl rfl (Nat.le_of_ble_eq_true rfl) ?_
  refine x_ifB_eq (pc := 11) hC 24 dX3_takeCleanGap_11 (by decide) (fun b11 => ?_) (fun b11 => ?_)
  · refine x_aload_n (pc := 24) hC dX3_takeCleanGap_24 rfl ?_
    refine x_getO (pc := 25) hC gf_X3_41 dX3_takeCleanGap_25 hg.1 hg.2.2.2.2.2.2.2.1.1 ?_
    refine x_aload_n (pc := 28) hC dX3_takeCleanGap_28 rfl ?_
    refine x_getO (pc := 29) hC gf_X3_34 dX3_takeCleanGap_29 hg.1 hg.2.2.2.2.2.1.1 ?_
    refine x_mV (pc := 32) hC cv_X3_104 dX3_takeCleanGap_32 (c_equalsPart ht hb lt lb) hg.2.2.2.2.2.2.2.1.2 rfl (by decide) rfl rfl (Nat.le_of_ble_eq_true rfl) ?_
    refine x_ifB_ne (pc := 35) hC 52 dX3_takeCleanGap_35 (by decide) (fun b35 => ?_) (fun b35 => ?_)
    · refine x_aload_n (pc := 52) hC dX3_takeCleanGap_52 rfl ?_
      refine x_aload_n (pc := 53) hC dX3_takeCleanGap_53 rfl ?_
      refine x_getO (pc := 54) hC gf_X3_38 dX3_takeCleanGap_54 hg.1 hg.2.2.2.2.2.2.1.1 ?_
      refine x_mVx (pc := 57) hC cv_X3_108 dX3_takeCleanGap_57 (c_addLines hg hL ho lo h1 (by omega) hro) hg.1 rfl (by decide) rfl rfl (Nat.le_of_ble_eq_true rfl) ?_
      rintro v J ⟨rfl, hS, hF⟩
      dsimp only [Option.toList, List.nil_append]
      refine x_iconst (pc := 60) hC dX3_takeCleanGap_60 ?_
      refine x_zret (pc := 61) hC rfl dX3_takeCleanGap_61 (Or.inr rfl) ?_
      rw [if_neg b11]
      first
      | (rw [if_pos (Or.inl b35)]; exact ⟨⟨rfl, hS, hF⟩, rfl, rfl, rfl, rfl⟩)
      | (rw [if_pos (Or.inr b49)]; exact ⟨⟨rfl, hS, hF⟩, rfl, rfl, rfl, rfl⟩)
    · refine x_aload_n (pc := 38) hC dX3_takeCleanGap_38 rfl ?_
      refine x_getO (pc := 39) hC gf_X3_41 dX3_takeCleanGap_39 hg.1 hg.2.2.2.2.2.2.2.1.1 ?_
      refine x_aload_n (pc := 42) hC dX3_takeCleanGap_42 rfl ?_
      refine x_getO (pc := 43) hC gf_X3_38 dX3_takeCleanGap_43 hg.1 hg.2.2.2.2.2.2.1.1 ?_
      refine x_mV (pc := 46) hC cv_X3_104 dX3_takeCleanGap_46 (c_equalsPart ht ho lt lo) hg.2.2.2.2.2.2.2.1.2 rfl (by decide) rfl rfl (Nat.le_of_ble_eq_true rfl) ?_
      refine x_ifB_eq (pc := 49) hC 62 dX3_takeCleanGap_49 (by decide) (fun b49 => ?_) (fun b49 => ?_)
      · refine x_iconst (pc := 62) hC dX3_takeCleanGap_62 ?_
        refine x_zret (pc := 63) hC rfl dX3_takeCleanGap_63 (Or.inl rfl) ?_
        rw [if_neg b11, if_neg (fun h => by rcases h with h | h <;> contradiction)]
        exact ⟨⟨rfl, hL, rlF.rf⟩, rfl, rfl, rfl, rfl⟩
      · refine x_aload_n (pc := 52) hC dX3_takeCleanGap_52 rfl ?_
        refine x_aload_n (pc := 53) hC dX3_takeCleanGap_53 rfl ?_
        refine x_getO (pc := 54) hC gf_X3_38 dX3_takeCleanGap_54 hg.1 hg.2.2.2.2.2.2.1.1 ?_
        refine x_mVx (pc := 57) hC cv_X3_108 dX3_takeCleanGap_57 (c_addLines hg hL ho lo h1 (by omega) hro) hg.1 rfl (by decide) rfl rfl (Nat.le_of_ble_eq_true rfl) ?_
        rintro v J ⟨rfl, hS, hF⟩
        dsimp only [Option.toList, List.nil_append]
        refine x_iconst (pc := 60) hC dX3_takeCleanGap_60 ?_
        refine x_zret (pc := 61) hC rfl dX3_takeCleanGap_61 (Or.inr rfl) ?_
        rw [if_neg b11]
        first
        | (rw [if_pos (Or.inl b35)]; exact ⟨⟨rfl, hS, hF⟩, rfl, rfl, rfl, rfl⟩)
        | (rw [if_pos (Or.inr b49)]; exact ⟨⟨rfl, hS, hF⟩, rfl, rfl, rfl, rfl⟩)
  · refine x_aload_n (pc := 14) hC dX3_takeCleanGap_14 rfl ?_
    refine x_aload_n (pc := 15) hC dX3_takeCleanGap_15 rfl ?_
    refine x_getO (pc := 16) hC gf_X3_41 dX3_takeCleanGap_16 hg.1 hg.2.2.2.2.2.2.2.1.1 ?_
    refine x_mVx (pc := 19) hC cv_X3_108 dX3_takeCleanGap_19 (c_addLines hg hL ht lt h2 (by omega) hrt) hg.1 rfl (by decide) rfl rfl (Nat.le_of_ble_eq_true rfl) ?_
    rintro v J ⟨rfl, hS, hF⟩
    dsimp only [Option.toList, List.nil_append]
    refine x_iconst (pc := 22) hC dX3_takeCleanGap_22 ?_
    refine x_zret (pc := 23) hC rfl dX3_takeCleanGap_23 (Or.inr rfl) ?_
    rw [if_pos b11]
    exact ⟨⟨rfl, hS, hF⟩, rfl, rfl, rfl, rfl⟩

