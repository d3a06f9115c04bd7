/-! THE REFERENCE: replay, go, skip, abort, status -/
/-- what holds between calls of a replay that has stopped -/
def rpS (I : Nat → Int → Int) (o : Nat) : Prop := (0 ≤ I o 40 ∧ I o 40 ≤ 2) ∧ (I o 40 ≠ 0 → rp I o ∧ I o 47 < I o 46 ∧ I o 2 + (I o 46 - I o 47) ≤ 24 ∧ I o 44 ≤ I o 2)
/-- a replay is set up -/
def rpE (P : Nat → Int → Int) (o : Nat) (b c : Int) : Nat → Int → Int := ax_u (ax_u (ax_u (ax_u (ax_u (ax_f (kpI P o 0) (o + 29) 0 4 (fun _ => 0)) o 41 b) o 42 c) o 43 c) o 44 (P o 2)) o 47 0
def rpl (I : Nat → Int → Int) (o : Nat) (b c : Int) : Int × (Nat → Int → Int) :=
  if (0 ≤ b ∧ b < 4) ∧ 0 ≤ c ∧ c < I o 2 then
    if I o 40 = 0 then
      if I o 2 + ((tdL I o b c).length : Int) ≤ 24 then goF o (tdL I o b c).length 1 (ax_u (rpE (plI I o b c) o b c) o 40 0)
      else (-4, plI I o b c)
    else (-3, I)
  else (-1, I)
def goR (I : Nat → Int → Int) (o : Nat) : Int × (Nat → Int → Int) := if I o 40 = 0 then (-3, I) else goF o (I o 46 - I o 47).toNat 0 (ax_u I o 40 0)
def skR (I : Nat → Int → Int) (o : Nat) : Int × (Nat → Int → Int) := if I o 40 = 0 then (-3, I) else goF o (I o 46 - (I o 47 + 1)).toNat 1 (ax_u (goL I o) o 40 0)
def abR (I : Nat → Int → Int) (o : Nat) : Int × (Nat → Int → Int) := if I o 40 = 0 then (-3, I) else (I o 2 - I o 44, kpI (ax_u (ax_u I o 2 (I o 44)) o 40 0) o 1)
theorem kp_o {I : Nat → Int → Int} {o : Nat} {b k : Int} (h1 : k ≠ 30) (h2 : k ≠ 35) : kpI I o b o k = I o k := by
  unfold kpI kpF
  rw [axf_a (by omega), axf_a (by omega), axu_j h2, axu_j h1, axf_a (by omega), axf_a (by omega), axf_a (by omega), axf_a (by omega), axf_a (by omega), axf_a (by omega), axf_a (by omega), axf_a (by omega)]
theorem kp_o30 {I : Nat → Int → Int} {o : Nat} {b : Int} : kpI I o b o 30 = if b = 0 then I o 30 else I o 35 := by
  unfold kpI
  rw [axf_a (by omega), axf_a (by omega), axu_j (by decide), axu_s]
theorem kp_o35 {I : Nat → Int → Int} {o : Nat} {b : Int} : kpI I o b o 35 = if b = 0 then I o 30 else I o 35 := by
  unfold kpI
  rw [axf_a (by omega), axf_a (by omega), axu_s]
theorem kp_row {I : Nat → Int → Int} {o : Nat} {b : Int} {q : Nat} (h0 : q ≠ o) (h : q < o + 20 ∨ o + 30 < q ∨ q = o + 28) : kpI I o b q = I q := by
  unfold kpI kpF
  rw [axf_row (by omega), axf_row (by omega), axu_row h0, axu_row h0, axf_row (by omega), axf_row (by omega), axf_row (by omega), axf_row (by omega), axf_row (by omega), axf_row (by omega), axf_row (by omega), axf_row (by omega)]
theorem kp_20 {I : Nat → Int → Int} {o : Nat} {b : Int} (j : Int) (h0 : 0 ≤ j) (h1 : j < 408) : kpI I o b (o + 20) j = kpG I b (o + 20) (o + 24) j := by
  unfold kpI kpF
  rw [axf_a (by omega), axf_a (by omega), axu_a (by omega), axu_a (by omega), axf_a (by omega), axf_a (by omega), axf_a (by omega), axf_a (by omega), axf_a (by omega), axf_a (by omega), axf_a (by omega), axf_in (by omega) (by omega)]
theorem kp_21 {I : Nat → Int → Int} {o : Nat} {b : Int} (j : Int) (h0 : 0 ≤ j) (h1 : j < 8) : kpI I o b (o + 21) j = kpG I b (o + 21) (o + 25) j := by
  unfold kpI kpF
  rw [axf_a (by omega), axf_a (by omega), axu_a (by omega), axu_a (by omega), axf_a (by omega), axf_a (by omega), axf_a (by omega), axf_in (by omega) (by omega)]
theorem kp_22 {I : Nat → Int → Int} {o : Nat} {b : Int} (j : Int) (h0 : 0 ≤ j) (h1 : j < 48) : kpI I o b (o + 22) j = kpG I b (o + 22) (o + 26) j := by
  unfold kpI kpF
  rw [axf_a (by omega), axf_a (by omega), axu_a (by omega), axu_a (by omega), axf_a (by omega), axf_a (by omega), axf_a (by omega), axf_a (by omega), axf_a (by omega), axf_in (by omega) (by omega)]
theorem kp_23 {I : Nat → Int → Int} {o : Nat} {b : Int} (j : Int) (h0 : 0 ≤ j) (h1 : j < 8) : kpI I o b (o + 23) j = kpG I b (o + 23) (o + 27) j := by
  unfold kpI kpF
  rw [axf_a (by omega), axf_a (by omega), axu_a (by omega), axu_a (by omega), axf_a (by omega), axf_in (by omega) (by omega)]
/-- laid aside: the rows themselves stay -/
theorem kp_st {I : Nat → Int → Int} {o : Nat} : kpI I o 0 (o + 20) = I (o + 20) ∧ kpI I o 0 (o + 21) = I (o + 21) ∧ kpI I o 0 (o + 22) = I (o + 22) ∧ kpI I o 0 (o + 23) = I (o + 23) := by
  have hg : ∀ a c j, kpG I 0 a c j = I a j := fun a c j => if_pos rfl
  refine ⟨?_, ?_, ?_, ?_⟩
  · funext j
    unfold kpI kpF
    rw [axf_a (by omega), axf_a (by omega), axu_a (by omega), axu_a (by omega), axf_a (by omega), axf_a (by omega), axf_a (by omega), axf_a (by omega), axf_a (by omega), axf_a (by omega), axf_a (by omega)]
    unfold ax_f
    split
    · exact hg _ _ _
    · rfl
  · funext j
    unfold kpI kpF
    rw [axf_a (by omega), axf_a (by omega), axu_a (by omega), axu_a (by omega), axf_a (by omega), axf_a (by omega), axf_a (by omega)]
    by_cases h : 0 ≤ j ∧ j < 0 + 8
    · rw [axf_in h.1 h.2]; exact hg _ _ _
    · rw [axf_out (by omega), axf_a (by omega), axf_a (by omega), axf_a (by omega), axf_a (by omega)]
  · funext j
    unfold kpI kpF
    rw [axf_a (by omega), axf_a (by omega), axu_a (by omega), axu_a (by omega), axf_a (by omega), axf_a (by omega), axf_a (by omega), axf_a (by omega), axf_a (by omega)]
    by_cases h : 0 ≤ j ∧ j < 0 + 48
    · rw [axf_in h.1 h.2]; exact hg _ _ _
    · rw [axf_out (by omega), axf_a (by omega), axf_a (by omega)]
  · funext j
    unfold kpI kpF
    rw [axf_a (by omega), axf_a (by omega), axu_a (by omega), axu_a (by omega), axf_a (by omega)]
    by_cases h : 0 ≤ j ∧ j < 0 + 8
    · rw [axf_in h.1 h.2]; exact hg _ _ _
    · rw [axf_out (by omega), axf_a (by omega), axf_a (by omega), axf_a (by omega), axf_a (by omega), axf_a (by omega), axf_a (by omega)]
theorem rpE_o {P : Nat → Int → Int} {o : Nat} {b c k : Int} (h : k ≠ 41 ∧ k ≠ 42 ∧ k ≠ 43 ∧ k ≠ 44 ∧ k ≠ 47 ∧ k ≠ 30 ∧ k ≠ 35) : rpE P o b c o k = P o k := by
  unfold rpE
  rw [axu_j h.2.2.2.2.1, axu_j h.2.2.2.1, axu_j h.2.2.1, axu_j h.2.1, axu_j h.1, axf_a (by omega), kp_o h.2.2.2.2.2.1 h.2.2.2.2.2.2]
theorem rpE_row {P : Nat → Int → Int} {o : Nat} {b c : Int} {q : Nat} (h0 : q ≠ o) (h9 : q ≠ o + 29) : rpE P o b c q = kpI P o 0 q := by
  unfold rpE
  rw [axu_row h0, axu_row h0, axu_row h0, axu_row h0, axu_row h0, axf_row h9]
theorem td_in {I : Nat → Int → Int} {o : Nat} {b c y : Int} (hm : miC I o) (hc : 0 ≤ c ∧ c < I o 2) (h : y ∈ tdL I o b c) : 0 < y ∧ y < I o 2 := by
  simp only [tdL, List.mem_filter, Bool.and_eq_true, decide_eq_true_eq] at h
  obtain ⟨h1, h2, h3⟩ := h
  obtain ⟨k, k0, k1, rfl⟩ := seg_mem.mp h1
  have hk : (k : Int) ≠ 0 := fun e => h3 (by
    simp only [id]
    rw [e]
    exact zero_in hm.2.2.1 _ c (Nat.le_refl _) hc.1 hc.2)
  simp only [id]
  omega
theorem td_len {I : Nat → Int → Int} {o : Nat} {b c : Int} (hm : 0 ≤ I o 2) : ((tdL I o b c).length : Int) ≤ I o 2 := by
  have := List.length_filter_le (fun y => decide (y ∈ path (I (o + 2)) (I (o + 7) b)) && decide (y ∉ path (I (o + 2)) c)) (seg id 0 (I o 2))
  rw [seg_len] at this
  unfold tdL
  omega
theorem pl_o {I : Nat → Int → Int} {o : Nat} {b c k : Int} (h : k ≠ 46) : plI I o b c o k = I o k := by
  unfold plI ax_l
  rw [axf_a (by omega), axu_j h]
theorem pl_o46 {I : Nat → Int → Int} {o : Nat} {b c : Int} : plI I o b c o 46 = (tdL I o b c).length := by
  unfold plI ax_l
  rw [axf_a (by omega), axu_s]
theorem pl_row {I : Nat → Int → Int} {o : Nat} {b c : Int} {q : Nat} (h0 : q ≠ o) (h1 : q ≠ o + 28) : plI I o b c q = I q := by
  unfold plI ax_l
  rw [axf_row h1, axu_row h0]
theorem pl_28 {I : Nat → Int → Int} {o : Nat} {b c i : Int} (h0 : 0 ≤ i) (h1 : i < (tdL I o b c).length) : plI I o b c (o + 28) i = lf (tdL I o b c) i := by
  unfold plI ax_l
  rw [axf_in h0 (by omega)]
theorem lf_mem {L : List Int} {i : Int} (h0 : 0 ≤ i) (h1 : i < L.length) : lf L i ∈ L := by
  unfold lf
  rw [List.getD_eq_getElem?_getD, List.getElem?_eq_getElem (by omega)]
  exact List.getElem_mem _
theorem gI_rpE {I : Nat → Int → Int} {o : Nat} {b c : Int} (hm : miC I o) (hR : miR I o) (hb : 0 ≤ b ∧ b < 4) (hc : 0 ≤ c ∧ c < I o 2) : gI (rpE (plI I o b c) o b c) o := by
  have hrow : ∀ q, o < q → q < o + 20 → rpE (plI I o b c) o b c q = I q := fun q h1 h2 => by
    rw [rpE_row (by omega) (by omega), kp_row (by omega) (by omega), pl_row (by omega) (by omega)]
  have e2 : rpE (plI I o b c) o b c o 2 = I o 2 := by rw [rpE_o (by decide), pl_o (by decide)]
  have hl := td_len (b := b) (c := c) (show 0 ≤ I o 2 by have := hm.1; omega)
  have hm1 := hm.1
  refine ⟨miC_eq e2 (hrow _ (by omega) (by omega)) (hrow _ (by omega) (by omega)) (hrow _ (by omega) (by omega)) (hrow _ (by omega) (by omega)) (hrow _ (by omega) (by omega)) hm, miR_eq ?_ ?_ ?_ ?_ ?_ hR, ?_⟩
  · unfold rpE
    rw [axu_j (by decide), axu_j (by decide), axu_j (by decide), axu_j (by decide), axu_j (by decide), axf_a (by omega), kp_o30, if_pos rfl, pl_o (by decide)]
  · rw [rpE_row (by omega) (by omega), kp_st.1, pl_row (by omega) (by omega)]
  · rw [rpE_row (by omega) (by omega), kp_st.2.1, pl_row (by omega) (by omega)]
  · rw [rpE_row (by omega) (by omega), kp_st.2.2.1, pl_row (by omega) (by omega)]
  · rw [rpE_row (by omega) (by omega), kp_st.2.2.2, pl_row (by omega) (by omega)]
  · have e46 : rpE (plI I o b c) o b c o 46 = (tdL I o b c).length := by rw [rpE_o (by decide), pl_o46]
    have e47 : rpE (plI I o b c) o b c o 47 = 0 := by unfold rpE; rw [axu_s]
    have e43 : rpE (plI I o b c) o b c o 43 = c := by unfold rpE; rw [axu_j (by decide), axu_j (by decide), axu_s]
    have e42 : rpE (plI I o b c) o b c o 42 = c := by unfold rpE; rw [axu_j (by decide), axu_j (by decide), axu_j (by decide), axu_s]
    have e41 : rpE (plI I o b c) o b c o 41 = b := by unfold rpE; rw [axu_j (by decide), axu_j (by decide), axu_j (by decide), axu_j (by decide), axu_s]
    have e44 : rpE (plI I o b c) o b c o 44 = I o 2 := by unfold rpE; rw [axu_j (by decide), axu_s, pl_o (by decide)]
    unfold rp
    rw [e46, e47, e43, e42, e41, e44, e2, rpE_row (by omega) (by omega), kp_row (by omega) (by omega)]
    refine ⟨by omega, fun i h0 h1 => ?_, hc, hc, hb, by omega⟩
    rw [pl_28 h0 h1]
    exact td_in hm hc (lf_mem h0 h1)

set_option maxHeartbeats 4000000 in
set_option maxRecDepth 100000 in
theorem m_replay {G : ax_G} {T : Nat → Nat} {N : Nat → Int} {I : Nat → Int → Int} {R : Nat → Int → Option Nat} {z o : Nat} (M : axMo T N R o) {b c : Int} (hm : miC I o) (hR : miR I o) (hs : 0 ≤ (I o 40) ∧ (I o 40) ≤ 2) (hbr : ax_r b) (hcr : ax_r c) : axEx G YX12_replay 8 [vR o, vI b, vI c] T N I R z (fun r1 I1 => r1 = some (vI (rpl I o b c).1) ∧ scr (rpl I o b c).2 I1 o) := by

  refine ax_enter (by decide) (Nat.le_of_ble_eq_true rfl) (ax_cat rfl) (fun f hC => ?_)
  show axX G f 0 0 _ 0 [vR o, vI b, vI c, vU] [] T N I R z 0 0
  have hmm := hm.1
  have p2 : plI I o b c o 2 = I o 2 := pl_o (by decide)
  have hl := td_len (I := I) (o := o) (b := b) (c := c) (by omega)
  have loop : (0 ≤ b ∧ b < 4) → (0 ≤ c ∧ c < I o 2) → I o 40 = 0 → I o 2 + ((tdL I o b c).length : Int) ≤ 24 → ∀ (n : Nat) (x : Int), (4 - x).toNat ≤ n → 0 ≤ x → x ≤ 4 → axX G f 0 0 (fun r1 T1 N1 I1 R1 z1 => (r1 = some (vI (rpl I o b c).1) ∧ scr (rpl I o b c).2 I1 o) ∧ T1 = T ∧ N1 = N ∧ R1 = R ∧ z1 = z) 57 [vR o, vI b, vI c, vI x] [] T N (ax_f (kpI (plI I o b c) o 0) (o + 29) 0 x (fun _ => 0)) R z 0 0 := by
    intro hb hc h40 hrm n
    have hfull : rpl I o b c = goF o (tdL I o b c).length 1 (ax_u (rpE (plI I o b c) o b c) o 40 0) := by
      unfold rpl; rw [if_pos ⟨hb, hc⟩, if_pos h40, if_pos hrm]
    have g := gI_rpE hm hR hb hc
    have e2 : rpE (plI I o b c) o b c o 2 = I o 2 := by rw [rpE_o (by decide), pl_o (by decide)]
    have e46 : rpE (plI I o b c) o b c o 46 = (tdL I o b c).length := by rw [rpE_o (by decide), pl_o46]
    have e47 : rpE (plI I o b c) o b c o 47 = 0 := by unfold rpE; rw [axu_s]
    induction n with
    | zero =>
      intro x hn h0 h1
      have hx : x = 4 := by omega
      refine x_iload_n (pc := 57) hC dX12_replay_57 rfl ?_
      refine x_iconst (pc := 58) hC dX12_replay_58 ?_
      refine x_icmp_ge (pc := 59) hC 75 dX12_replay_59 (by decide) (by omega) (by omega) (fun b59 => ?_) (fun b59 => ?_)
      · refine x_aload_n (pc := 75) hC dX12_replay_75 rfl ?_
        refine x_iload_n (pc := 76) hC dX12_replay_76 rfl ?_
        refine x_putI (pc := 77) hC pf_X12_274 dX12_replay_77 M.1 (by decide) ?_
        refine x_aload_n (pc := 80) hC dX12_replay_80 rfl ?_
        refine x_iload_n (pc := 81) hC dX12_replay_81 rfl ?_
        refine x_putI (pc := 82) hC pf_X12_277 dX12_replay_82 M.1 (by decide) ?_
        refine x_aload_n (pc := 85) hC dX12_replay_85 rfl ?_
        refine x_iload_n (pc := 86) hC dX12_replay_86 rfl ?_
        refine x_putI (pc := 87) hC pf_X12_265 dX12_replay_87 M.1 (by decide) ?_
        refine x_aload_n (pc := 90) hC dX12_replay_90 rfl ?_
        refine x_aload_n (pc := 91) hC dX12_replay_91 rfl ?_
        refine x_getI (pc := 92) hC gf_X12_129 dX12_replay_92 M.1 ?_
        refine x_putI (pc := 95) hC pf_X12_268 dX12_replay_95 M.1 (by decide) ?_
        refine x_aload_n (pc := 98) hC dX12_replay_98 rfl ?_
        refine x_iconst (pc := 99) hC dX12_replay_99 ?_
        refine x_putI (pc := 100) hC pf_X12_271 dX12_replay_100 M.1 (by decide) ?_
        have hx : x = 4 := by omega
        subst hx
        have k2 : (ax_u (ax_u (ax_u (ax_f (kpI (plI I o b c) o 0) (o + 29) 0 4 (fun _ => 0)) o 41 b) o 42 c) o 43 c) o 2 = plI I o b c o 2 := by
          rw [axu_j (by decide), axu_j (by decide), axu_j (by decide), axf_a (by omega), kp_o (by decide) (by decide)]
        rw [k2]
        show axX G f 0 0 _ 103 _ _ _ _ (rpE (plI I o b c) o b c) _ _ _ _
        refine x_aload_n (pc := 103) hC dX12_replay_103 rfl ?_
        refine x_iconst (pc := 104) hC dX12_replay_104 ?_
        refine x_mVx (pc := 105) hC cv_X12_296 dX12_replay_105 (m_goesOn M (Or.inl rfl) g (by rw [e2, e46, e47]; omega) (hfull.trans (by rw [e46, e47]; congr 1))) M.1 rfl (by decide) rfl rfl (Nat.le_of_ble_eq_true rfl) ?_
        rintro v J ⟨rfl, hJ⟩
        dsimp only [Option.toList]
        show axX _ _ _ _ _ _ _ (vI _ :: []) _ _ _ _ _ _ _
        refine x_iret (pc := 108) hC rfl dX12_replay_108 ?_
        exact ⟨⟨rfl, hJ⟩, rfl, rfl, rfl, rfl⟩
      · omega
    | succ n ih =>
      intro x hn h0 h1
      refine x_iload_n (pc := 57) hC dX12_replay_57 rfl ?_
      refine x_iconst (pc := 58) hC dX12_replay_58 ?_
      refine x_icmp_ge (pc := 59) hC 75 dX12_replay_59 (by decide) (by omega) (by omega) (fun b59 => ?_) (fun b59 => ?_)
      · refine x_aload_n (pc := 75) hC dX12_replay_75 rfl ?_
        refine x_iload_n (pc := 76) hC dX12_replay_76 rfl ?_
        refine x_putI (pc := 77) hC pf_X12_274 dX12_replay_77 M.1 (by decide) ?_
        refine x_aload_n (pc := 80) hC dX12_replay_80 rfl ?_
        refine x_iload_n (pc := 81) hC dX12_replay_81 rfl ?_
        refine x_putI (pc := 82) hC pf_X12_277 dX12_replay_82 M.1 (by decide) ?_
        refine x_aload_n (pc := 85) hC dX12_replay_85 rfl ?_
        refine x_iload_n (pc := 86) hC dX12_replay_86 rfl ?_
        refine x_putI (pc := 87) hC pf_X12_265 dX12_replay_87 M.1 (by decide) ?_
        refine x_aload_n (pc := 90) hC dX12_replay_90 rfl ?_
        refine x_aload_n (pc := 91) hC dX12_replay_91 rfl ?_
        refine x_getI (pc := 92) hC gf_X12_129 dX12_replay_92 M.1 ?_
        refine x_putI (pc := 95) hC pf_X12_268 dX12_replay_95 M.1 (by decide) ?_
        refine x_aload_n (pc := 98) hC dX12_replay_98 rfl ?_
        refine x_iconst (pc := 99) hC dX12_replay_99 ?_
        refine x_putI (pc := 100) hC pf_X12_271 dX12_replay_100 M.1 (by decide) ?_
        have hx : x = 4 := by omega
        subst hx
        have k2 : (ax_u (ax_u (ax_u (ax_f (kpI (plI I o b c) o 0) (o + 29) 0 4 (fun _ => 0)) o 41 b) o 42 c) o 43 c) o 2 = plI I o b c o 2 := by
          rw [axu_j (by decide), axu_j (by decide), axu_j (by decide), axf_a (by omega), kp_o (by decide) (by decide)]
        rw [k2]
        show axX G f 0 0 _ 103 _ _ _ _ (rpE (plI I o b c) o b c) _ _ _ _
        refine x_aload_n (pc := 103) hC dX12_replay_103 rfl ?_
        refine x_iconst (pc := 104) hC dX12_replay_104 ?_
        refine x_mVx (pc := 105) hC cv_X12_296 dX12_replay_105 (m_goesOn M (Or.inl rfl) g (by rw [e2, e46, e47]; omega) (hfull.trans (by rw [e46, e47]; congr 1))) M.1 rfl (by decide) rfl rfl (Nat.le_of_ble_eq_true rfl) ?_
        rintro v J ⟨rfl, hJ⟩
        dsimp only [Option.toList]
        show axX _ _ _ _ _ _ _ (vI _ :: []) _ _ _ _ _ _ _
        refine x_iret (pc := 108) hC rfl dX12_replay_108 ?_
        exact ⟨⟨rfl, hJ⟩, rfl, rfl, rfl, rfl⟩
      · refine x_aload_n (pc := 62) hC dX12_replay_62 rfl ?_
        refine x_getO (pc := 63) hC gf_X12_94 dX12_replay_63 M.1 (mo_done M).1 ?_
        refine x_iload_n (pc := 66) hC dX12_replay_66 rfl ?_
        refine x_iconst (pc := 67) hC dX12_replay_67 ?_
        refine x_iast (pc := 68) hC dX12_replay_68 (mo_done M).2.1 (by omega) (by rw [(mo_done M).2.2]; omega) ?_
        refine x_iinc (pc := 69) hC dX12_replay_69 rfl ?_
        dsimp only [List.set]
        refine x_goto (pc := 72) hC 57 dX12_replay_72 (by decide) ?_
        rw [axf_step h0 (by omega) rfl]
        exact ih (x + 1) (by omega) (by omega) (by omega)
  refine x_iload_n (pc := 0) hC dX12_replay_0 rfl ?_
  refine x_mS (pc := 1) hC cs_X12_183 dX12_replay_1 (m_isBranch hbr) rfl (by decide) rfl rfl (Nat.le_of_ble_eq_true rfl) ?_
  refine x_ifB_eq (pc := 4) hC 15 dX12_replay_4 (by decide) (fun b4 => ?_) (fun b4 => ?_)
  · refine x_iconst (pc := 15) hC dX12_replay_15 ?_
    refine x_iret (pc := 16) hC rfl dX12_replay_16 ?_
    refine ⟨⟨?_, ?_⟩, rfl, rfl, rfl, rfl⟩
    · unfold rpl; rw [if_neg (by omega)]
    · unfold rpl; rw [if_neg (by omega)]; exact scr.rf
  · refine x_aload_n (pc := 7) hC dX12_replay_7 rfl ?_
    refine x_iload_n (pc := 8) hC dX12_replay_8 rfl ?_
    refine x_mV (pc := 9) hC cv_X12_171 dX12_replay_9 (m_isCommit M hcr (by omega)) M.1 rfl (by decide) rfl rfl (Nat.le_of_ble_eq_true rfl) ?_
    refine x_ifB_ne (pc := 12) hC 17 dX12_replay_12 (by decide) (fun b12 => ?_) (fun b12 => ?_)
    · refine x_aload_n (pc := 17) hC dX12_replay_17 rfl ?_
      refine x_getI (pc := 18) hC gf_X12_189 dX12_replay_18 M.1 ?_
      refine x_if_eq (pc := 21) hC 27 dX12_replay_21 (by decide) (by omega) (fun b21 => ?_) (fun b21 => ?_)
      · refine x_aload_n (pc := 27) hC dX12_replay_27 rfl ?_
        refine x_iload_n (pc := 28) hC dX12_replay_28 rfl ?_
        refine x_iload_n (pc := 29) hC dX12_replay_29 rfl ?_
        refine x_mV (pc := 30) hC cv_X12_289 dX12_replay_30 (m_plans M hm b4 b12) M.1 rfl (by decide) rfl rfl (Nat.le_of_ble_eq_true rfl) ?_
        refine x_aload_n (pc := 33) hC dX12_replay_33 rfl ?_
        refine x_getI (pc := 34) hC gf_X12_129 dX12_replay_34 M.1 ?_
        refine x_aload_n (pc := 37) hC dX12_replay_37 rfl ?_
        refine x_getI (pc := 38) hC gf_X12_262 dX12_replay_38 M.1 ?_
        refine x_iadd (pc := 41) hC dX12_replay_41 ?_
        refine x_bipush (pc := 42) hC dX12_replay_42 (by decide) ?_
        rw [p2, pl_o46]
        refine x_icmp_le (pc := 44) hC 50 dX12_replay_44 (by decide) (by omega) (by omega) (fun b44 => ?_) (fun b44 => ?_)
        · refine x_aload_n (pc := 50) hC dX12_replay_50 rfl ?_
          refine x_iconst (pc := 51) hC dX12_replay_51 ?_
          refine x_mV (pc := 52) hC cv_X12_292 dX12_replay_52 (m_keeps M (Or.inl rfl)) M.1 rfl (by decide) rfl rfl (Nat.le_of_ble_eq_true rfl) ?_
          refine x_iconst (pc := 55) hC dX12_replay_55 ?_
          refine x_istore_n (pc := 56) hC dX12_replay_56 (Nat.le_of_ble_eq_true rfl) ?_
          dsimp only [List.set]
          have := loop b4 b12 b21 (by omega) _ 0 (Nat.le_refl _) (by omega) (by omega)
          rw [axf_0] at this
          exact this
        · refine x_bipush (pc := 47) hC dX12_replay_47 (by decide) ?_
          refine x_iret (pc := 49) hC rfl dX12_replay_49 ?_
          refine ⟨⟨?_, ?_⟩, rfl, rfl, rfl, rfl⟩
          · unfold rpl; rw [if_pos ⟨b4, b12⟩, if_pos b21, if_neg (by omega)]
          · unfold rpl; rw [if_pos ⟨b4, b12⟩, if_pos b21, if_neg (by omega)]; exact scr.rf
      · refine x_bipush (pc := 24) hC dX12_replay_24 (by decide) ?_
        refine x_iret (pc := 26) hC rfl dX12_replay_26 ?_
        refine ⟨⟨?_, ?_⟩, rfl, rfl, rfl, rfl⟩
        · unfold rpl; rw [if_pos ⟨b4, b12⟩, if_neg b21]
        · unfold rpl; rw [if_pos ⟨b4, b12⟩, if_neg b21]; exact scr.rf
    · refine x_iconst (pc := 15) hC dX12_replay_15 ?_
      refine x_iret (pc := 16) hC rfl dX12_replay_16 ?_
      refine ⟨⟨?_, ?_⟩, rfl, rfl, rfl, rfl⟩
      · unfold rpl; rw [if_neg (by omega)]
      · unfold rpl; rw [if_neg (by omega)]; exact scr.rf

set_option maxHeartbeats 4000000 in
set_option maxRecDepth 100000 in
theorem m_go {G : ax_G} {T : Nat → Nat} {N : Nat → Int} {I : Nat → Int → Int} {R : Nat → Int → Option Nat} {z o : Nat} (M : axMo T N R o) (hm : miC I o) (hR : miR I o) (hs : rpS I o) : axEx G YX12_go 8 [vR o] T N I R z (fun r1 I1 => r1 = some (vI (goR I o).1) ∧ scr (goR I o).2 I1 o) := by

  refine ax_enter (by decide) (Nat.le_of_ble_eq_true rfl) (ax_cat rfl) (fun f hC => ?_)
  show axX G f 0 0 _ 0 [vR o] [] T N I R z 0 0
  have hs0 := hs.1
  refine x_aload_n (pc := 0) hC dX12_go_0 rfl ?_
  refine x_getI (pc := 1) hC gf_X12_189 dX12_go_1 M.1 ?_
  refine x_if_ne (pc := 4) hC 12 dX12_go_4 (by decide) (by omega) (fun b4 => ?_) (fun b4 => ?_)
  · have hrp := hs.2 b4
    refine x_aload_n (pc := 12) hC dX12_go_12 rfl ?_
    refine x_iconst (pc := 13) hC dX12_go_13 ?_
    refine x_mVx (pc := 14) hC cv_X12_296 dX12_go_14 (m_goesOn M (Or.inr rfl) ⟨hm, hR, hrp.1⟩ (by omega) rfl) M.1 rfl (by decide) rfl rfl (Nat.le_of_ble_eq_true rfl) ?_
    rintro v J ⟨rfl, hJ⟩
    dsimp only [Option.toList]
    show axX _ _ _ _ _ _ _ (vI _ :: []) _ _ _ _ _ _ _
    refine x_iret (pc := 17) hC rfl dX12_go_17 ?_
    first
    | exact ⟨⟨by unfold goR; rw [if_neg b4]; rfl, by unfold goR; rw [if_neg b4]; exact hJ⟩, rfl, rfl, rfl, rfl⟩
    | exact ⟨⟨by unfold goR; rw [if_pos b4], by unfold goR; rw [if_pos b4]; exact scr.rf⟩, rfl, rfl, rfl, rfl⟩
  · refine x_bipush (pc := 7) hC dX12_go_7 (by decide) ?_
    refine x_goto (pc := 9) hC 17 dX12_go_9 (by decide) ?_
    refine x_iret (pc := 17) hC rfl dX12_go_17 ?_
    first
    | exact ⟨⟨by unfold goR; rw [if_neg b4]; rfl, by unfold goR; rw [if_neg b4]; exact hJ⟩, rfl, rfl, rfl, rfl⟩
    | exact ⟨⟨by unfold goR; rw [if_pos b4], by unfold goR; rw [if_pos b4]; exact scr.rf⟩, rfl, rfl, rfl, rfl⟩

set_option maxHeartbeats 4000000 in
set_option maxRecDepth 100000 in
theorem m_skip {G : ax_G} {T : Nat → Nat} {N : Nat → Int} {I : Nat → Int → Int} {R : Nat → Int → Option Nat} {z o : Nat} (M : axMo T N R o) (hm : miC I o) (hR : miR I o) (hs : rpS I o) : axEx G YX12_skip 8 [vR o] T N I R z (fun r1 I1 => r1 = some (vI (skR I o).1) ∧ scr (skR I o).2 I1 o) := by

  refine ax_enter (by decide) (Nat.le_of_ble_eq_true rfl) (ax_cat rfl) (fun f hC => ?_)
  show axX G f 0 0 _ 0 [vR o] [] T N I R z 0 0
  have hs0 := hs.1
  have hL : ax_u (ax_u I (o + 29) 1 (I (o + 29) 1 + 1)) o 47 ((ax_u I (o + 29) 1 (I (o + 29) 1 + 1)) o 47 + 1) = goL I o := rfl
  have l47 : goL I o o 47 = I o 47 + 1 := by unfold goL nxt; rw [axu_s, axu_a (by omega)]
  have lO : ∀ k, k ≠ 47 → goL I o o k = I o k := fun k hk => by unfold goL nxt; rw [axu_j hk, axu_a (by omega)]
  refine x_aload_n (pc := 0) hC dX12_skip_0 rfl ?_
  refine x_getI (pc := 1) hC gf_X12_189 dX12_skip_1 M.1 ?_
  refine x_if_ne (pc := 4) hC 10 dX12_skip_4 (by decide) (by omega) (fun b4 => ?_) (fun b4 => ?_)
  · have hrp := hs.2 b4
    have gL : gI (goL I o) o := gI_nxt (gI_u29 ⟨hm, hR, hrp.1⟩) (by rw [axu_a (by omega), axu_a (by omega)]; omega)
    refine x_aload_n (pc := 10) hC dX12_skip_10 rfl ?_
    refine x_getO (pc := 11) hC gf_X12_94 dX12_skip_11 M.1 (mo_done M).1 ?_
    refine x_iconst (pc := 14) hC dX12_skip_14 ?_
    refine x_dup2 (pc := 15) hC dX12_skip_15 rfl rfl ?_
    refine x_iald (pc := 16) hC dX12_skip_16 (mo_done M).2.1 (by omega) (by rw [(mo_done M).2.2]; omega) ?_
    refine x_iconst (pc := 17) hC dX12_skip_17 ?_
    refine x_iadd (pc := 18) hC dX12_skip_18 ?_
    refine x_iast (pc := 19) hC dX12_skip_19 (mo_done M).2.1 (by omega) (by rw [(mo_done M).2.2]; omega) ?_
    refine x_aload_n (pc := 20) hC dX12_skip_20 rfl ?_
    refine x_dup (pc := 21) hC dX12_skip_21 rfl ?_
    refine x_getI (pc := 22) hC gf_X12_271 dX12_skip_22 M.1 ?_
    refine x_iconst (pc := 25) hC dX12_skip_25 ?_
    refine x_iadd (pc := 26) hC dX12_skip_26 ?_
    refine x_putI (pc := 27) hC pf_X12_271 dX12_skip_27 M.1 (by decide) ?_
    rw [hL]
    refine x_aload_n (pc := 30) hC dX12_skip_30 rfl ?_
    refine x_iconst (pc := 31) hC dX12_skip_31 ?_
    refine x_mVx (pc := 32) hC cv_X12_296 dX12_skip_32 (m_goesOn M (Or.inl rfl) gL (by rw [l47, lO 2 (by decide), lO 46 (by decide)]; omega) rfl) M.1 rfl (by decide) rfl rfl (Nat.le_of_ble_eq_true rfl) ?_
    rintro v J ⟨rfl, hJ⟩
    dsimp only [Option.toList]
    rw [l47, lO 46 (by decide)] at hJ ⊢
    show axX _ _ _ _ _ _ _ (vI _ :: []) _ _ _ _ _ _ _
    refine x_iret (pc := 35) hC rfl dX12_skip_35 ?_
    first
    | exact ⟨⟨by unfold skR; rw [if_neg b4]; rfl, by unfold skR; rw [if_neg b4]; exact hJ⟩, rfl, rfl, rfl, rfl⟩
    | exact ⟨⟨by unfold skR; rw [if_pos b4], by unfold skR; rw [if_pos b4]; exact scr.rf⟩, rfl, rfl, rfl, rfl⟩
  · refine x_bipush (pc := 7) hC dX12_skip_7 (by decide) ?_
    refine x_iret (pc := 9) hC rfl dX12_skip_9 ?_
    first
    | exact ⟨⟨by unfold skR; rw [if_neg b4]; rfl, by unfold skR; rw [if_neg b4]; exact hJ⟩, rfl, rfl, rfl, rfl⟩
    | exact ⟨⟨by unfold skR; rw [if_pos b4], by unfold skR; rw [if_pos b4]; exact scr.rf⟩, rfl, rfl, rfl, rfl⟩

set_option maxHeartbeats 4000000 in
set_option maxRecDepth 100000 in
theorem m_abort {G : ax_G} {T : Nat → Nat} {N : Nat → Int} {I : Nat → Int → Int} {R : Nat → Int → Option Nat} {z o : Nat} (M : axMo T N R o) (hs : 0 ≤ (I o 40) ∧ (I o 40) ≤ 2) : axE G YX12_abort 1 [vR o] T N I R z (some (vI (abR I o).1)) (abR I o).2 := by

  refine ax_enter (by decide) (Nat.le_of_ble_eq_true rfl) (ax_cat rfl) (fun f hC => ?_)
  show axX G f 0 0 _ 0 [vR o, vU] [] T N I R z 0 0
  refine x_aload_n (pc := 0) hC dX12_abort_0 rfl ?_
  refine x_getI (pc := 1) hC gf_X12_189 dX12_abort_1 M.1 ?_
  refine x_if_ne (pc := 4) hC 10 dX12_abort_4 (by decide) (by omega) (fun b4 => ?_) (fun b4 => ?_)
  · refine x_aload_n (pc := 10) hC dX12_abort_10 rfl ?_
    refine x_getI (pc := 11) hC gf_X12_129 dX12_abort_11 M.1 ?_
    refine x_aload_n (pc := 14) hC dX12_abort_14 rfl ?_
    refine x_getI (pc := 15) hC gf_X12_268 dX12_abort_15 M.1 ?_
    refine x_isub (pc := 18) hC dX12_abort_18 ?_
    refine x_istore_n (pc := 19) hC dX12_abort_19 (Nat.le_of_ble_eq_true rfl) ?_
    dsimp only [List.set]
    refine x_aload_n (pc := 20) hC dX12_abort_20 rfl ?_
    refine x_aload_n (pc := 21) hC dX12_abort_21 rfl ?_
    refine x_getI (pc := 22) hC gf_X12_268 dX12_abort_22 M.1 ?_
    refine x_putI (pc := 25) hC pf_X12_129 dX12_abort_25 M.1 (by decide) ?_
    refine x_aload_n (pc := 28) hC dX12_abort_28 rfl ?_
    refine x_iconst (pc := 29) hC dX12_abort_29 ?_
    refine x_putI (pc := 30) hC pf_X12_189 dX12_abort_30 M.1 (by decide) ?_
    refine x_aload_n (pc := 33) hC dX12_abort_33 rfl ?_
    refine x_iconst (pc := 34) hC dX12_abort_34 ?_
    refine x_mV (pc := 35) hC cv_X12_292 dX12_abort_35 (m_keeps M (Or.inr rfl)) M.1 rfl (by decide) rfl rfl (Nat.le_of_ble_eq_true rfl) ?_
    refine x_iload_n (pc := 38) hC dX12_abort_38 rfl ?_
    refine x_iret (pc := 39) hC rfl dX12_abort_39 ?_
    first
    | exact ⟨by unfold abR; rw [if_neg b4], rfl, rfl, by unfold abR; rw [if_neg b4], rfl, rfl⟩
    | exact ⟨by unfold abR; rw [if_pos b4], rfl, rfl, by unfold abR; rw [if_pos b4], rfl, rfl⟩
  · refine x_bipush (pc := 7) hC dX12_abort_7 (by decide) ?_
    refine x_iret (pc := 9) hC rfl dX12_abort_9 ?_
    first
    | exact ⟨by unfold abR; rw [if_neg b4], rfl, rfl, by unfold abR; rw [if_neg b4], rfl, rfl⟩
    | exact ⟨by unfold abR; rw [if_pos b4], rfl, rfl, by unfold abR; rw [if_pos b4], rfl, rfl⟩

