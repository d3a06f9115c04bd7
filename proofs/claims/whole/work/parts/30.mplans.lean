/-! THE REFERENCE: what a replay needs -/
/-- a list laid into a row -/
def ax_l (I : Nat → Int → Int) (a : Nat) (L : List Int) : Nat → Int → Int := ax_f I a 0 L.length (lf L)
theorem axl_nil {I : Nat → Int → Int} {a : Nat} : ax_l I a [] = I := axf_0
theorem lf_app {L M : List Int} {i : Int} (h0 : 0 ≤ i) (h1 : i < L.length) : lf (L ++ M) i = lf L i := by
  unfold lf
  rw [List.getD_eq_getElem?_getD, List.getD_eq_getElem?_getD, List.getElem?_append_left (by omega)]
theorem lf_last {L : List Int} {v : Int} : lf (L ++ [v]) L.length = v := by
  unfold lf
  rw [List.getD_eq_getElem?_getD, Int.toNat_natCast, List.getElem?_append_right (by omega)]
  simp
theorem axl_step {I : Nat → Int → Int} {a : Nat} {L : List Int} {j v : Int} (hj : j = L.length) : ax_u (ax_l I a L) a j v = ax_l I a (L ++ [v]) := by
  subst hj
  unfold ax_l
  rw [axf_g (g := lf L) (g' := lf (L ++ [v])) (fun i h0 h1 => (lf_app h0 (by omega)).symm), axf_step (by omega) (by omega) lf_last.symm]
  congr 1
  simp
def tdL (I : Nat → Int → Int) (o : Nat) (b c : Int) : List Int := (seg id 0 (I o 2)).filter (fun y => decide (y ∈ path (I (o + 2)) (I (o + 7) b)) && decide (y ∉ path (I (o + 2)) c))
def plI (I : Nat → Int → Int) (o : Nat) (b c : Int) : Nat → Int → Int := ax_l (ax_u I o 46 ((tdL I o b c).length : Int)) (o + 28) (tdL I o b c)
/-- what lies on the one path and not on the branch -/
def thL (I : Nat → Int → Int) (o : Nat) (b c : Int) : List Int := (seg id 0 (I o 2)).filter (fun y => decide (y ∈ path (I (o + 2)) c) && decide (y ∉ path (I (o + 2)) (I (o + 7) b)))
abbrev thP (I : Nat → Int → Int) (o : Nat) (x b c : Int) : Prop := I (o + 1) x = 0 ∧ ∃ y ∈ thL I o b c, chgC I o x = chgC I o y

set_option maxHeartbeats 4000000 in
set_option maxRecDepth 100000 in
theorem m_plans {G : ax_G} {T : Nat → Nat} {N : Nat → Int} {I : Nat → Int → Int} {R : Nat → Int → Option Nat} {z o : Nat} (M : axMo T N R o) {b c : Int} (hm : miC I o) (hb : 0 ≤ b ∧ b < 4) (hc : 0 ≤ c ∧ c < (I o 2)) : axE G YX12_plans 1 [vR o, vI b, vI c] T N I R z none (plI I o b c) := by

  refine ax_enter (by decide) (Nat.le_of_ble_eq_true rfl) (ax_cat rfl) (fun f hC => ?_)
  show axX G f 0 0 _ 0 [vR o, vI b, vI c, vU] [] T N I R z 0 0
  have hmm := hm.1
  have hp := hm.2.2.1
  have ht := hm.2.2.2.2.1 b hb.1 hb.2
  have loop : ∀ (n : Nat) (x : Int), ((I o 2) - x).toNat ≤ n → 0 ≤ x → x ≤ (I o 2) → axX G f 0 0 (fun r1 T1 N1 I1 R1 z1 => r1 = none ∧ T1 = T ∧ N1 = N ∧ I1 = (plI I o b c) ∧ R1 = R ∧ z1 = z) 7 [vR o, vI b, vI c, vI x] [] T N (ax_l (ax_u I o 46 (((seg id 0 x).filter (fun y => decide (y ∈ path (I (o + 2)) (I (o + 7) b)) && decide (y ∉ path (I (o + 2)) c))).length : Int)) (o + 28) ((seg id 0 x).filter (fun y => decide (y ∈ path (I (o + 2)) (I (o + 7) b)) && decide (y ∉ path (I (o + 2)) c)))) R z 0 0 := by
    intro n
    induction n with
    | zero =>
      intro x hn h0 h1
      have e2 : (ax_l (ax_u I o 46 (((seg id 0 x).filter (fun y => decide (y ∈ path (I (o + 2)) (I (o + 7) b)) && decide (y ∉ path (I (o + 2)) c))).length : Int)) (o + 28) ((seg id 0 x).filter (fun y => decide (y ∈ path (I (o + 2)) (I (o + 7) b)) && decide (y ∉ path (I (o + 2)) c)))) o 2 = I o 2 := by unfold ax_l; rw [axf_a (by omega), axu_j (by decide)]
      refine x_iload_n (pc := 7) hC dX12_plans_7 rfl ?_
      refine x_aload_n (pc := 8) hC dX12_plans_8 rfl ?_
      refine x_getI (pc := 9) hC gf_X12_129 dX12_plans_9 M.1 ?_
      rw [e2]
      refine x_icmp_ge (pc := 12) hC 64 dX12_plans_12 (by decide) (by omega) (by omega) (fun b12 => ?_) (fun b12 => ?_)
      · refine x_vret (pc := 64) hC rfl dX12_plans_64 ?_
        have hx : x = (I o 2) := by omega
        refine ⟨rfl, rfl, rfl, ?_, rfl, rfl⟩
        rw [hx]; rfl
      · omega
    | succ n ih =>
      intro x hn h0 h1
      have hsn := seg_snoc (f := id) h0
      have hih := fun h => ih (x + 1) (by omega) (by omega) h
      rw [hsn, List.filter_append] at hih
      obtain ⟨F, hF⟩ : ∃ F, F = ((seg id 0 x).filter (fun y => decide (y ∈ path (I (o + 2)) (I (o + 7) b)) && decide (y ∉ path (I (o + 2)) c))) := ⟨_, rfl⟩
      have hFl : F.length ≤ x := by
        rw [hF]
        have := List.length_filter_le (fun y => decide (y ∈ path (I (o + 2)) (I (o + 7) b)) && decide (y ∉ path (I (o + 2)) c)) (seg id 0 x)
        rw [seg_len] at this
        omega
      rw [← hF] at hih
      rw [← hF]
      have e2 : (ax_l (ax_u I o 46 (F.length : Int)) (o + 28) F) o 2 = I o 2 := by unfold ax_l; rw [axf_a (by omega), axu_j (by decide)]
      have e46 : (ax_l (ax_u I o 46 (F.length : Int)) (o + 28) F) o 46 = F.length := by unfold ax_l; rw [axf_a (by omega), axu_s]
      have eR : ∀ q, q ≠ o → q ≠ o + 28 → (ax_l (ax_u I o 46 (F.length : Int)) (o + 28) F) q = I q := fun q a b => by unfold ax_l; rw [axf_row b, axu_row a]
      have hpJ : PW ((ax_l (ax_u I o 46 (F.length : Int)) (o + 28) F) (o + 2)) (I o 2) := by rw [eR _ (by omega) (by omega)]; exact hp
      refine x_iload_n (pc := 7) hC dX12_plans_7 rfl ?_
      refine x_aload_n (pc := 8) hC dX12_plans_8 rfl ?_
      refine x_getI (pc := 9) hC gf_X12_129 dX12_plans_9 M.1 ?_
      rw [e2]
      refine x_icmp_ge (pc := 12) hC 64 dX12_plans_12 (by decide) (by omega) (by omega) (fun b12 => ?_) (fun b12 => ?_)
      · refine x_vret (pc := 64) hC rfl dX12_plans_64 ?_
        rw [hF]
        have hx : x = (I o 2) := by omega
        refine ⟨rfl, rfl, rfl, ?_, rfl, rfl⟩
        rw [hx]; rfl
      · refine x_aload_n (pc := 15) hC dX12_plans_15 rfl ?_
        refine x_iload_n (pc := 16) hC dX12_plans_16 rfl ?_
        refine x_aload_n (pc := 17) hC dX12_plans_17 rfl ?_
        refine x_getO (pc := 18) hC gf_X12_28 dX12_plans_18 M.1 (mo_tips M).1 ?_
        refine x_iload_n (pc := 21) hC dX12_plans_21 rfl ?_
        refine x_iald (pc := 22) hC dX12_plans_22 (mo_tips M).2.1 (by omega) (by rw [(mo_tips M).2.2]; omega) ?_
        rw [eR (o + 7) (by omega) (by omega)]
        refine x_mV (pc := 23) hC cv_X12_201 dX12_plans_23 (m_isOn M hmm.2 hpJ (by omega) (by omega) ht.1 ht.2) M.1 rfl (by decide) rfl rfl (Nat.le_of_ble_eq_true rfl) ?_
        rw [eR (o + 2) (by omega) (by omega)]
        refine x_ifB_eq (pc := 26) hC 58 dX12_plans_26 (by decide) (fun b26 => ?_) (fun b26 => ?_)
        · skip
          refine x_iinc (pc := 58) hC dX12_plans_58 rfl ?_
          dsimp only [List.set]
          refine x_goto (pc := 61) hC 7 dX12_plans_61 (by decide) ?_
          first
          | (rw [axl_step rfl, show (ax_l (ax_u I o 46 (F.length : Int)) (o + 28) (F ++ [x])) o 46 = F.length by unfold ax_l; rw [axf_a (by omega), axu_s]]
             unfold ax_l
             rw [axf_uc (by omega), axu_uu]
             have hh := hih (by omega)
             rw [show [id x].filter (fun y => decide (y ∈ path (I (o + 2)) (I (o + 7) b)) && decide (y ∉ path (I (o + 2)) c)) = [x] by simp [b26, b35]] at hh
             rw [show ((F ++ [x]).length : Int) = F.length + 1 by simp] at hh
             unfold ax_l at hh
             rw [show ((F ++ [x]).length : Int) = F.length + 1 by simp] at hh ⊢
             exact hh)
          | (have hq : [id x].filter (fun y => decide (y ∈ path (I (o + 2)) (I (o + 7) b)) && decide (y ∉ path (I (o + 2)) c)) = [] := by
               first
               | (simp [b26]; done)
               | (simp [b26, b35]; done)
             have hh := hih (by omega)
             rw [hq, List.append_nil] at hh
             exact hh)
        · refine x_aload_n (pc := 29) hC dX12_plans_29 rfl ?_
          refine x_iload_n (pc := 30) hC dX12_plans_30 rfl ?_
          refine x_iload_n (pc := 31) hC dX12_plans_31 rfl ?_
          refine x_mV (pc := 32) hC cv_X12_201 dX12_plans_32 (m_isOn M hmm.2 hpJ (by omega) (by omega) hc.1 hc.2) M.1 rfl (by decide) rfl rfl (Nat.le_of_ble_eq_true rfl) ?_
          rw [eR (o + 2) (by omega) (by omega)]
          refine x_ifB_ne (pc := 35) hC 58 dX12_plans_35 (by decide) (fun b35 => ?_) (fun b35 => ?_)
          · skip
            refine x_iinc (pc := 58) hC dX12_plans_58 rfl ?_
            dsimp only [List.set]
            refine x_goto (pc := 61) hC 7 dX12_plans_61 (by decide) ?_
            first
            | (rw [axl_step rfl, show (ax_l (ax_u I o 46 (F.length : Int)) (o + 28) (F ++ [x])) o 46 = F.length by unfold ax_l; rw [axf_a (by omega), axu_s]]
               unfold ax_l
               rw [axf_uc (by omega), axu_uu]
               have hh := hih (by omega)
               rw [show [id x].filter (fun y => decide (y ∈ path (I (o + 2)) (I (o + 7) b)) && decide (y ∉ path (I (o + 2)) c)) = [x] by simp [b26, b35]] at hh
               rw [show ((F ++ [x]).length : Int) = F.length + 1 by simp] at hh
               unfold ax_l at hh
               rw [show ((F ++ [x]).length : Int) = F.length + 1 by simp] at hh ⊢
               exact hh)
            | (have hq : [id x].filter (fun y => decide (y ∈ path (I (o + 2)) (I (o + 7) b)) && decide (y ∉ path (I (o + 2)) c)) = [] := by
                 first
                 | (simp [b26]; done)
                 | (simp [b26, b35]; done)
               have hh := hih (by omega)
               rw [hq, List.append_nil] at hh
               exact hh)
          · refine x_aload_n (pc := 38) hC dX12_plans_38 rfl ?_
            refine x_getO (pc := 39) hC gf_X12_91 dX12_plans_39 M.1 (mo_todo M).1 ?_
            refine x_aload_n (pc := 42) hC dX12_plans_42 rfl ?_
            refine x_getI (pc := 43) hC gf_X12_262 dX12_plans_43 M.1 ?_
            rw [e46]
            refine x_iload_n (pc := 46) hC dX12_plans_46 rfl ?_
            refine x_iast (pc := 47) hC dX12_plans_47 (mo_todo M).2.1 (by omega) (by rw [(mo_todo M).2.2]; omega) ?_
            refine x_aload_n (pc := 48) hC dX12_plans_48 rfl ?_
            refine x_dup (pc := 49) hC dX12_plans_49 rfl ?_
            refine x_getI (pc := 50) hC gf_X12_262 dX12_plans_50 M.1 ?_
            refine x_iconst (pc := 53) hC dX12_plans_53 ?_
            refine x_iadd (pc := 54) hC dX12_plans_54 ?_
            refine x_putI (pc := 55) hC pf_X12_262 dX12_plans_55 M.1 (by decide) ?_
            skip
            refine x_iinc (pc := 58) hC dX12_plans_58 rfl ?_
            dsimp only [List.set]
            refine x_goto (pc := 61) hC 7 dX12_plans_61 (by decide) ?_
            first
            | (rw [axl_step rfl, show (ax_l (ax_u I o 46 (F.length : Int)) (o + 28) (F ++ [x])) o 46 = F.length by unfold ax_l; rw [axf_a (by omega), axu_s]]
               unfold ax_l
               rw [axf_uc (by omega), axu_uu]
               have hh := hih (by omega)
               rw [show [id x].filter (fun y => decide (y ∈ path (I (o + 2)) (I (o + 7) b)) && decide (y ∉ path (I (o + 2)) c)) = [x] by simp [b26, b35]] at hh
               rw [show ((F ++ [x]).length : Int) = F.length + 1 by simp] at hh
               unfold ax_l at hh
               rw [show ((F ++ [x]).length : Int) = F.length + 1 by simp] at hh ⊢
               exact hh)
            | (have hq : [id x].filter (fun y => decide (y ∈ path (I (o + 2)) (I (o + 7) b)) && decide (y ∉ path (I (o + 2)) c)) = [] := by
                 first
                 | (simp [b26]; done)
                 | (simp [b26, b35]; done)
               have hh := hih (by omega)
               rw [hq, List.append_nil] at hh
               exact hh)
  refine x_aload_n (pc := 0) hC dX12_plans_0 rfl ?_
  refine x_iconst (pc := 1) hC dX12_plans_1 ?_
  refine x_putI (pc := 2) hC pf_X12_262 dX12_plans_2 M.1 (by decide) ?_
  refine x_iconst (pc := 5) hC dX12_plans_5 ?_
  refine x_istore_n (pc := 6) hC dX12_plans_6 (Nat.le_of_ble_eq_true rfl) ?_
  dsimp only [List.set]
  have := loop _ 0 (Nat.le_refl _) (by omega) (by omega)
  rw [seg_nil (Int.le_refl _), List.filter_nil, axl_nil] at this
  exact this

set_option maxHeartbeats 4000000 in
set_option maxRecDepth 100000 in
theorem m_isThere {G : ax_G} {T : Nat → Nat} {N : Nat → Int} {I : Nat → Int → Int} {R : Nat → Int → Option Nat} {z o : Nat} (M : axMo T N R o) {c b d : Int} (hm : miC I o) (hc : 0 ≤ c ∧ c < (I o 2)) (hb : 0 ≤ b ∧ b < 4) (hd : 0 ≤ d ∧ d < (I o 2)) : axEx G YX12_isThere 6 [vR o, vI c, vI b, vI d] T N I R z (fun r1 I1 => r1 = some (vI (bI (thP I o c b d))) ∧ scr I I1 o) := by

  refine ax_enter (by decide) (Nat.le_of_ble_eq_true rfl) (ax_cat rfl) (fun f hC => ?_)
  show axX G f 0 0 _ 0 [vR o, vI c, vI b, vI d, vU, vU] [] T N I R z 0 0
  have hmm := hm.1
  have hp := hm.2.2.1
  have hk := hm.2.2.2.2.2 c
  have ht := hm.2.2.2.2.1 b hb.1 hb.2
  have hpp : ∀ y, 0 ≤ y → y < (I o 2) → y ≠ 0 → 0 ≤ I (o + 2) y ∧ I (o + 2) y < 24 := fun y h0 h1 h2 => by
    have := hp.2 y (by omega) h1
    omega
  have loop : ∀ (n : Nat) (x : Int) (J : Nat → Int → Int), ((I o 2) - x).toNat ≤ n → 0 ≤ x → x ≤ (I o 2) → scr I J o → (I (o + 1) c = 0 → ∀ y, 0 ≤ y → y < x → ¬ (y ∈ path (I (o + 2)) d ∧ y ∉ path (I (o + 2)) (I (o + 7) b) ∧ chgC I o c = chgC I o y)) → axX G f 0 0 (fun r1 T1 N1 I1 R1 z1 => (r1 = some (vI (bI (thP I o c b d))) ∧ scr I I1 o) ∧ T1 = T ∧ N1 = N ∧ R1 = R ∧ z1 = z) 6 [vR o, vI c, vI b, vI d, vI 0, vI x] [] T N J R z 0 0 := by
    intro n
    have hnot : ∀ x, (I o 2) ≤ x → (I (o + 1) c = 0 → ∀ y, 0 ≤ y → y < x → ¬ (y ∈ path (I (o + 2)) d ∧ y ∉ path (I (o + 2)) (I (o + 7) b) ∧ chgC I o c = chgC I o y)) → ¬ thP I o c b d := by
      rintro x hx hno ⟨h1, y, hy, he⟩
      simp only [thL, List.mem_filter, Bool.and_eq_true, decide_eq_true_eq] at hy
      obtain ⟨k, hk0, hk1, rfl⟩ := seg_mem.mp hy.1
      exact hno h1 (id k) hk0 (by simp only [id]; omega) ⟨hy.2.1, hy.2.2, he⟩
    induction n with
    | zero =>
      intro x J hn h0 h1 hJ hno
      have j2 : J o 2 = I o 2 := hJ.2 2 (by unfold sfd; omega)
      refine x_iload (pc := 6) hC dX12_isThere_6 rfl ?_
      refine x_aload_n (pc := 8) hC dX12_isThere_8 rfl ?_
      refine x_getI (pc := 9) hC gf_X12_129 dX12_isThere_9 M.1 ?_
      rw [j2]
      refine x_icmp_ge (pc := 12) hC 77 dX12_isThere_12 (by decide) (by omega) (by omega) (fun b12 => ?_) (fun b12 => ?_)
      · refine x_iload (pc := 77) hC dX12_isThere_77 rfl ?_
        refine x_zret (pc := 79) hC rfl dX12_isThere_79 (Or.inl rfl) ?_
        exact ⟨⟨by rw [bI_f (hnot x (by omega) hno)], hJ⟩, rfl, rfl, rfl, rfl⟩
      · omega
    | succ n ih =>
      intro x J hn h0 h1 hJ hno
      have j2 : J o 2 = I o 2 := hJ.2 2 (by unfold sfd; omega)
      have jj : ∀ q, o < q → q < o + 8 → J q = I q := fun q a b => hJ.1 q (by omega) (by omega)
      have z1 := jj (o + 1) (by omega) (by omega)
      have z2 := jj (o + 2) (by omega) (by omega)
      have z7 := jj (o + 7) (by omega) (by omega)
      have hpJ : PW (J (o + 2)) (I o 2) := by rw [z2]; exact hp
      have hlJ : lnOk J o := lnOk_eq (jj _ (by omega) (by omega)) (jj _ (by omega) (by omega)) hm.2.1
      have cJ : ∀ y, chgC J o y = chgC I o y := fun y => chgC_eq z2 (jj (o + 5) (by omega) (by omega)) (jj (o + 6) (by omega) (by omega)) y
      refine x_iload (pc := 6) hC dX12_isThere_6 rfl ?_
      refine x_aload_n (pc := 8) hC dX12_isThere_8 rfl ?_
      refine x_getI (pc := 9) hC gf_X12_129 dX12_isThere_9 M.1 ?_
      rw [j2]
      refine x_icmp_ge (pc := 12) hC 77 dX12_isThere_12 (by decide) (by omega) (by omega) (fun b12 => ?_) (fun b12 => ?_)
      · refine x_iload (pc := 77) hC dX12_isThere_77 rfl ?_
        refine x_zret (pc := 79) hC rfl dX12_isThere_79 (Or.inl rfl) ?_
        first
        | exact ⟨⟨by rw [bI_f (hnot x (by omega) hno)], hJ⟩, rfl, rfl, rfl, rfl⟩
        | exact ⟨⟨by rw [bI_f (fun h => absurd h.1 (by assumption))], hJ⟩, rfl, rfl, rfl, rfl⟩
      · refine x_iload (pc := 15) hC dX12_isThere_15 rfl ?_
        refine x_if_ne (pc := 17) hC 77 dX12_isThere_17 (by decide) (by decide) (fun h => absurd rfl h) (fun _ => ?_)
        refine x_aload_n (pc := 20) hC dX12_isThere_20 rfl ?_
        refine x_getO (pc := 21) hC gf_X12_7 dX12_isThere_21 M.1 (mo_kind M).1 ?_
        refine x_iload_n (pc := 24) hC dX12_isThere_24 rfl ?_
        refine x_iald (pc := 25) hC dX12_isThere_25 (mo_kind M).2.1 (by omega) (by rw [(mo_kind M).2.2]; omega) ?_
        rw [z1]
        refine x_if_ne (pc := 26) hC 77 dX12_isThere_26 (by decide) (by omega) (fun b26 => ?_) (fun b26 => ?_)
        · refine x_iload (pc := 77) hC dX12_isThere_77 rfl ?_
          refine x_zret (pc := 79) hC rfl dX12_isThere_79 (Or.inl rfl) ?_
          first
          | exact ⟨⟨by rw [bI_f (hnot x (by omega) hno)], hJ⟩, rfl, rfl, rfl, rfl⟩
          | exact ⟨⟨by rw [bI_f (fun h => absurd h.1 (by assumption))], hJ⟩, rfl, rfl, rfl, rfl⟩
        · refine x_aload_n (pc := 29) hC dX12_isThere_29 rfl ?_
          refine x_iload (pc := 30) hC dX12_isThere_30 rfl ?_
          refine x_iload_n (pc := 32) hC dX12_isThere_32 rfl ?_
          refine x_mV (pc := 33) hC cv_X12_201 dX12_isThere_33 (m_isOn M hmm.2 hpJ (by omega) (by omega) hd.1 hd.2) M.1 rfl (by decide) rfl rfl (Nat.le_of_ble_eq_true rfl) ?_
          rw [z2]
          refine x_ifB_eq (pc := 36) hC 68 dX12_isThere_36 (by decide) (fun b36 => ?_) (fun b36 => ?_)
          · refine x_iconst (pc := 68) hC dX12_isThere_68 ?_
            refine x_istore (pc := 69) hC dX12_isThere_69 (Nat.le_of_ble_eq_true rfl) ?_
            dsimp only [List.set]
            refine x_iinc (pc := 71) hC dX12_isThere_71 rfl ?_
            dsimp only [List.set]
            refine x_goto (pc := 74) hC 6 dX12_isThere_74 (by decide) ?_
            first
            | exact ih (x + 1) _ (by omega) (by omega) (by omega) hJ3 (fun hk0 y a1 a2 hh => by
                by_cases hyx : y = x
                · subst hyx; exact absurd hh.2.2 (by assumption)
                · exact hno hk0 y a1 (by omega) hh)
            | exact ih (x + 1) _ (by omega) (by omega) (by omega) hJ (fun hk0 y a1 a2 hh => by
                by_cases hyx : y = x
                · subst hyx; first | exact absurd hh.1 (by assumption) | exact absurd (by assumption) hh.2.1
                · exact hno hk0 y a1 (by omega) hh)
            | skip
              refine x_iload (pc := 6) hC dX12_isThere_6 rfl ?_
              refine x_aload_n (pc := 8) hC dX12_isThere_8 rfl ?_
              refine x_getI (pc := 9) hC gf_X12_129 dX12_isThere_9 M.1 ?_
              rw [j2']
              refine x_icmp_ge (pc := 12) hC 77 dX12_isThere_12 (by decide) (by omega) (by omega) (fun b12 => ?_) (fun b12 => ?_)
              · refine x_iload (pc := 77) hC dX12_isThere_77 rfl ?_
                refine x_zret (pc := 79) hC rfl dX12_isThere_79 (Or.inr rfl) ?_
                refine ⟨⟨?_, hJ3⟩, rfl, rfl, rfl, rfl⟩
                have hmem : x ∈ thL I o b d := by
                  simp only [thL, List.mem_filter, Bool.and_eq_true, decide_eq_true_eq]
                  exact ⟨seg_mem.mpr ⟨x, h0, by omega, rfl⟩, by assumption, by assumption⟩
                have hth : thP I o c b d := ⟨by assumption, x, hmem, by assumption⟩
                rw [bI_t hth]
              · refine x_iload (pc := 15) hC dX12_isThere_15 rfl ?_
                refine x_if_ne (pc := 17) hC 77 dX12_isThere_17 (by decide) (by decide) (fun _ => ?_) (fun h => absurd h (by decide))
                refine x_iload (pc := 77) hC dX12_isThere_77 rfl ?_
                refine x_zret (pc := 79) hC rfl dX12_isThere_79 (Or.inr rfl) ?_
                refine ⟨⟨?_, hJ3⟩, rfl, rfl, rfl, rfl⟩
                have hmem : x ∈ thL I o b d := by
                  simp only [thL, List.mem_filter, Bool.and_eq_true, decide_eq_true_eq]
                  exact ⟨seg_mem.mpr ⟨x, h0, by omega, rfl⟩, by assumption, by assumption⟩
                have hth : thP I o c b d := ⟨by assumption, x, hmem, by assumption⟩
                rw [bI_t hth]
          · refine x_aload_n (pc := 39) hC dX12_isThere_39 rfl ?_
            refine x_iload (pc := 40) hC dX12_isThere_40 rfl ?_
            refine x_aload_n (pc := 42) hC dX12_isThere_42 rfl ?_
            refine x_getO (pc := 43) hC gf_X12_28 dX12_isThere_43 M.1 (mo_tips M).1 ?_
            refine x_iload_n (pc := 46) hC dX12_isThere_46 rfl ?_
            refine x_iald (pc := 47) hC dX12_isThere_47 (mo_tips M).2.1 (by omega) (by rw [(mo_tips M).2.2]; omega) ?_
            rw [z7]
            refine x_mV (pc := 48) hC cv_X12_201 dX12_isThere_48 (m_isOn M hmm.2 hpJ (by omega) (by omega) ht.1 ht.2) M.1 rfl (by decide) rfl rfl (Nat.le_of_ble_eq_true rfl) ?_
            rw [z2]
            refine x_ifB_ne (pc := 51) hC 68 dX12_isThere_51 (by decide) (fun b51 => ?_) (fun b51 => ?_)
            · refine x_iconst (pc := 68) hC dX12_isThere_68 ?_
              refine x_istore (pc := 69) hC dX12_isThere_69 (Nat.le_of_ble_eq_true rfl) ?_
              dsimp only [List.set]
              refine x_iinc (pc := 71) hC dX12_isThere_71 rfl ?_
              dsimp only [List.set]
              refine x_goto (pc := 74) hC 6 dX12_isThere_74 (by decide) ?_
              first
              | exact ih (x + 1) _ (by omega) (by omega) (by omega) hJ3 (fun hk0 y a1 a2 hh => by
                  by_cases hyx : y = x
                  · subst hyx; exact absurd hh.2.2 (by assumption)
                  · exact hno hk0 y a1 (by omega) hh)
              | exact ih (x + 1) _ (by omega) (by omega) (by omega) hJ (fun hk0 y a1 a2 hh => by
                  by_cases hyx : y = x
                  · subst hyx; first | exact absurd hh.1 (by assumption) | exact absurd (by assumption) hh.2.1
                  · exact hno hk0 y a1 (by omega) hh)
              | skip
                refine x_iload (pc := 6) hC dX12_isThere_6 rfl ?_
                refine x_aload_n (pc := 8) hC dX12_isThere_8 rfl ?_
                refine x_getI (pc := 9) hC gf_X12_129 dX12_isThere_9 M.1 ?_
                rw [j2']
                refine x_icmp_ge (pc := 12) hC 77 dX12_isThere_12 (by decide) (by omega) (by omega) (fun b12 => ?_) (fun b12 => ?_)
                · refine x_iload (pc := 77) hC dX12_isThere_77 rfl ?_
                  refine x_zret (pc := 79) hC rfl dX12_isThere_79 (Or.inr rfl) ?_
                  refine ⟨⟨?_, hJ3⟩, rfl, rfl, rfl, rfl⟩
                  have hmem : x ∈ thL I o b d := by
                    simp only [thL, List.mem_filter, Bool.and_eq_true, decide_eq_true_eq]
                    exact ⟨seg_mem.mpr ⟨x, h0, by omega, rfl⟩, by assumption, by assumption⟩
                  have hth : thP I o c b d := ⟨by assumption, x, hmem, by assumption⟩
                  rw [bI_t hth]
                · refine x_iload (pc := 15) hC dX12_isThere_15 rfl ?_
                  refine x_if_ne (pc := 17) hC 77 dX12_isThere_17 (by decide) (by decide) (fun _ => ?_) (fun h => absurd h (by decide))
                  refine x_iload (pc := 77) hC dX12_isThere_77 rfl ?_
                  refine x_zret (pc := 79) hC rfl dX12_isThere_79 (Or.inr rfl) ?_
                  refine ⟨⟨?_, hJ3⟩, rfl, rfl, rfl, rfl⟩
                  have hmem : x ∈ thL I o b d := by
                    simp only [thL, List.mem_filter, Bool.and_eq_true, decide_eq_true_eq]
                    exact ⟨seg_mem.mpr ⟨x, h0, by omega, rfl⟩, by assumption, by assumption⟩
                  have hth : thP I o c b d := ⟨by assumption, x, hmem, by assumption⟩
                  rw [bI_t hth]
            · refine x_aload_n (pc := 54) hC dX12_isThere_54 rfl ?_
              refine x_iload_n (pc := 55) hC dX12_isThere_55 rfl ?_
              refine x_iload (pc := 56) hC dX12_isThere_56 rfl ?_
              refine x_mVx (pc := 58) hC cv_X12_179 dX12_isThere_58 (m_areAlike M hlJ (by omega) (by omega) (by rw [z2]; exact hpp c hc.1 hc.2) (by rw [z2]; exact hpp x h0 (by omega))) M.1 rfl (by decide) rfl rfl (Nat.le_of_ble_eq_true rfl) ?_
              rintro v J2 ⟨rfl, hJ2⟩
              dsimp only [Option.toList]
              rw [cJ, cJ]
              show axX _ _ _ _ _ _ _ (vI _ :: []) _ _ _ _ _ _ _
              have hJ3 := hJ.tr hJ2
              have j2' : J2 o 2 = I o 2 := hJ3.2 2 (by unfold sfd; omega)
              refine x_ifB_eq (pc := 61) hC 68 dX12_isThere_61 (by decide) (fun b61 => ?_) (fun b61 => ?_)
              · refine x_iconst (pc := 68) hC dX12_isThere_68 ?_
                refine x_istore (pc := 69) hC dX12_isThere_69 (Nat.le_of_ble_eq_true rfl) ?_
                dsimp only [List.set]
                refine x_iinc (pc := 71) hC dX12_isThere_71 rfl ?_
                dsimp only [List.set]
                refine x_goto (pc := 74) hC 6 dX12_isThere_74 (by decide) ?_
                first
                | exact ih (x + 1) _ (by omega) (by omega) (by omega) hJ3 (fun hk0 y a1 a2 hh => by
                    by_cases hyx : y = x
                    · subst hyx; exact absurd hh.2.2 (by assumption)
                    · exact hno hk0 y a1 (by omega) hh)
                | exact ih (x + 1) _ (by omega) (by omega) (by omega) hJ (fun hk0 y a1 a2 hh => by
                    by_cases hyx : y = x
                    · subst hyx; first | exact absurd hh.1 (by assumption) | exact absurd (by assumption) hh.2.1
                    · exact hno hk0 y a1 (by omega) hh)
                | skip
                  refine x_iload (pc := 6) hC dX12_isThere_6 rfl ?_
                  refine x_aload_n (pc := 8) hC dX12_isThere_8 rfl ?_
                  refine x_getI (pc := 9) hC gf_X12_129 dX12_isThere_9 M.1 ?_
                  rw [j2']
                  refine x_icmp_ge (pc := 12) hC 77 dX12_isThere_12 (by decide) (by omega) (by omega) (fun b12 => ?_) (fun b12 => ?_)
                  · refine x_iload (pc := 77) hC dX12_isThere_77 rfl ?_
                    refine x_zret (pc := 79) hC rfl dX12_isThere_79 (Or.inr rfl) ?_
                    refine ⟨⟨?_, hJ3⟩, rfl, rfl, rfl, rfl⟩
                    have hmem : x ∈ thL I o b d := by
                      simp only [thL, List.mem_filter, Bool.and_eq_true, decide_eq_true_eq]
                      exact ⟨seg_mem.mpr ⟨x, h0, by omega, rfl⟩, by assumption, by assumption⟩
                    have hth : thP I o c b d := ⟨by assumption, x, hmem, by assumption⟩
                    rw [bI_t hth]
                  · refine x_iload (pc := 15) hC dX12_isThere_15 rfl ?_
                    refine x_if_ne (pc := 17) hC 77 dX12_isThere_17 (by decide) (by decide) (fun _ => ?_) (fun h => absurd h (by decide))
                    refine x_iload (pc := 77) hC dX12_isThere_77 rfl ?_
                    refine x_zret (pc := 79) hC rfl dX12_isThere_79 (Or.inr rfl) ?_
                    refine ⟨⟨?_, hJ3⟩, rfl, rfl, rfl, rfl⟩
                    have hmem : x ∈ thL I o b d := by
                      simp only [thL, List.mem_filter, Bool.and_eq_true, decide_eq_true_eq]
                      exact ⟨seg_mem.mpr ⟨x, h0, by omega, rfl⟩, by assumption, by assumption⟩
                    have hth : thP I o c b d := ⟨by assumption, x, hmem, by assumption⟩
                    rw [bI_t hth]
              · refine x_iconst (pc := 64) hC dX12_isThere_64 ?_
                refine x_goto (pc := 65) hC 69 dX12_isThere_65 (by decide) ?_
                refine x_istore (pc := 69) hC dX12_isThere_69 (Nat.le_of_ble_eq_true rfl) ?_
                dsimp only [List.set]
                refine x_iinc (pc := 71) hC dX12_isThere_71 rfl ?_
                dsimp only [List.set]
                refine x_goto (pc := 74) hC 6 dX12_isThere_74 (by decide) ?_
                first
                | exact ih (x + 1) _ (by omega) (by omega) (by omega) hJ3 (fun hk0 y a1 a2 hh => by
                    by_cases hyx : y = x
                    · subst hyx; exact absurd hh.2.2 (by assumption)
                    · exact hno hk0 y a1 (by omega) hh)
                | exact ih (x + 1) _ (by omega) (by omega) (by omega) hJ (fun hk0 y a1 a2 hh => by
                    by_cases hyx : y = x
                    · subst hyx; first | exact absurd hh.1 (by assumption) | exact absurd (by assumption) hh.2.1
                    · exact hno hk0 y a1 (by omega) hh)
                | skip
                  refine x_iload (pc := 6) hC dX12_isThere_6 rfl ?_
                  refine x_aload_n (pc := 8) hC dX12_isThere_8 rfl ?_
                  refine x_getI (pc := 9) hC gf_X12_129 dX12_isThere_9 M.1 ?_
                  rw [j2']
                  refine x_icmp_ge (pc := 12) hC 77 dX12_isThere_12 (by decide) (by omega) (by omega) (fun b12 => ?_) (fun b12 => ?_)
                  · refine x_iload (pc := 77) hC dX12_isThere_77 rfl ?_
                    refine x_zret (pc := 79) hC rfl dX12_isThere_79 (Or.inr rfl) ?_
                    refine ⟨⟨?_, hJ3⟩, rfl, rfl, rfl, rfl⟩
                    have hmem : x ∈ thL I o b d := by
                      simp only [thL, List.mem_filter, Bool.and_eq_true, decide_eq_true_eq]
                      exact ⟨seg_mem.mpr ⟨x, h0, by omega, rfl⟩, by assumption, by assumption⟩
                    have hth : thP I o c b d := ⟨by assumption, x, hmem, by assumption⟩
                    rw [bI_t hth]
                  · refine x_iload (pc := 15) hC dX12_isThere_15 rfl ?_
                    refine x_if_ne (pc := 17) hC 77 dX12_isThere_17 (by decide) (by decide) (fun _ => ?_) (fun h => absurd h (by decide))
                    refine x_iload (pc := 77) hC dX12_isThere_77 rfl ?_
                    refine x_zret (pc := 79) hC rfl dX12_isThere_79 (Or.inr rfl) ?_
                    refine ⟨⟨?_, hJ3⟩, rfl, rfl, rfl, rfl⟩
                    have hmem : x ∈ thL I o b d := by
                      simp only [thL, List.mem_filter, Bool.and_eq_true, decide_eq_true_eq]
                      exact ⟨seg_mem.mpr ⟨x, h0, by omega, rfl⟩, by assumption, by assumption⟩
                    have hth : thP I o c b d := ⟨by assumption, x, hmem, by assumption⟩
                    rw [bI_t hth]
  refine x_iconst (pc := 0) hC dX12_isThere_0 ?_
  refine x_istore (pc := 1) hC dX12_isThere_1 (Nat.le_of_ble_eq_true rfl) ?_
  dsimp only [List.set]
  refine x_iconst (pc := 3) hC dX12_isThere_3 ?_
  refine x_istore (pc := 4) hC dX12_isThere_4 (Nat.le_of_ble_eq_true rfl) ?_
  dsimp only [List.set]
  exact loop _ 0 I (Nat.le_refl _) (by omega) (by omega) scr.rf (fun _ y a b => by omega)

