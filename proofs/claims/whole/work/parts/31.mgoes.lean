/-! THE REFERENCE: a replay goes on -/
def layI (I : Nat → Int → Int) (o : Nat) (c : Int) (L : List Int) : Nat → Int → Int := ax_f (ax_u I (o + 6) c (L.length : Int)) (o + 5) (16 * c) L.length (fun j => lf L (j - 16 * c))
theorem m_lays {G : ax_G} {T : Nat → Nat} {N : Nat → Int} {I : Nat → Int → Int} {R : Nat → Int → Option Nat} {z o : Nat} (M : axMo T N R o) {c : Int} {L : List Int} (hr : rM I o L) (hc : 0 ≤ c ∧ c < 26) (hL : (L.length : Int) ≤ 16) : axE G YX12_laysResult 0 [vR o, vI c] T N I R z none (layI I o c L) := by
  refine axM.weaken (m_laysResult M hr hc hL) ?_
  rintro r T1 N1 J R1 z1 ⟨⟨h0, h1, h2, h3⟩, hT, hN, hR, hz⟩
  refine ⟨h0, hT, hN, ?_, hR, hz⟩
  funext q j
  unfold layI
  by_cases h5 : q = o + 5
  · rw [h5, h3]
    by_cases hj : 16 * c ≤ j ∧ j < 16 * c + L.length
    · rw [if_pos hj, axf_in hj.1 hj.2]; rfl
    · rw [if_neg hj, axf_out (by omega), axu_a (by omega)]
  · rw [axf_a h5]
    by_cases h6 : q = o + 6
    · rw [h6, h2]
      by_cases hj : j = c
      · rw [if_pos hj, hj, axu_s]
      · rw [if_neg hj, axu_j hj]
    · rw [axu_a h6, h1 q h5 h6]
theorem lay_s {I : Nat → Int → Int} {o : Nat} {c : Int} {L : List Int} : ∀ j, layI I o c L (o + 6) j = if j = c then (L.length : Int) else I (o + 6) j := fun j => by
  unfold layI
  rw [axf_a (by omega)]
  by_cases hj : j = c
  · rw [if_pos hj, hj, axu_s]
  · rw [if_neg hj, axu_j hj]
theorem lay_l {I : Nat → Int → Int} {o : Nat} {c : Int} {L : List Int} : ∀ j, layI I o c L (o + 5) j = if 16 * c ≤ j ∧ j < 16 * c + L.length then L.getD (j - 16 * c).toNat 0 else I (o + 5) j := fun j => by
  unfold layI
  by_cases hj : 16 * c ≤ j ∧ j < 16 * c + L.length
  · rw [if_pos hj, axf_in hj.1 hj.2]; rfl
  · rw [if_neg hj, axf_out (by omega), axu_a (by omega)]
theorem lay_row {I : Nat → Int → Int} {o : Nat} {c : Int} {L : List Int} {q : Nat} (h5 : q ≠ o + 5) (h6 : q ≠ o + 6) : layI I o c L q = I q := by
  unfold layI
  rw [axf_row h5, axu_row h6]
/-! the scratch apart -/
theorem scr.rsLe {I J : Nat → Int → Int} {o : Nat} (h : scr I J o) : rsL J o = rsL I o := rsL_eq (h.2 30 (by unfold sfd; omega)) (h.1 _ (by omega) (by omega)) (h.1 _ (by omega) (by omega)) (h.1 _ (by omega) (by omega)) (h.1 _ (by omega) (by omega))
theorem scr.rowLe {I J : Nat → Int → Int} {o : Nat} (h : scr I J o) (c : Int) : rowL J o c = rowL I o c := rowL_eq (h.1 _ (by omega) (by omega)) (h.1 _ (by omega) (by omega)) c
theorem scr.chgCe {I J : Nat → Int → Int} {o : Nat} (h : scr I J o) (c : Int) : chgC J o c = chgC I o c := chgC_eq (h.1 _ (by omega) (by omega)) (h.1 _ (by omega) (by omega)) (h.1 _ (by omega) (by omega)) c
theorem scr.miRe {I J : Nat → Int → Int} {o : Nat} (h : scr I J o) (hm : miR I o) : miR J o := miR_eq (h.2 30 (by unfold sfd; omega)) (h.1 _ (by omega) (by omega)) (h.1 _ (by omega) (by omega)) (h.1 _ (by omega) (by omega)) (h.1 _ (by omega) (by omega)) hm
theorem miC_eq {I J : Nat → Int → Int} {o : Nat} (h0 : J o 2 = I o 2) (h1 : J (o + 1) = I (o + 1)) (h2 : J (o + 2) = I (o + 2)) (h5 : J (o + 5) = I (o + 5)) (h6 : J (o + 6) = I (o + 6)) (h7 : J (o + 7) = I (o + 7)) (hm : miC I o) : miC J o := by
  unfold miC lnOk at *
  rw [h0, h1, h2, h5, h6, h7]; exact hm
theorem scr.miCe {I J : Nat → Int → Int} {o : Nat} (h : scr I J o) (hm : miC I o) : miC J o := miC_eq (h.2 2 (by unfold sfd; omega)) (h.1 _ (by omega) (by omega)) (h.1 _ (by omega) (by omega)) (h.1 _ (by omega) (by omega)) (h.1 _ (by omega) (by omega)) (h.1 _ (by omega) (by omega)) hm
theorem scr.thLe {I J : Nat → Int → Int} {o : Nat} (h : scr I J o) (b c : Int) : thL J o b c = thL I o b c := by
  unfold thL
  rw [h.2 2 (by unfold sfd; omega), h.1 (o + 2) (by omega) (by omega), h.1 (o + 7) (by omega) (by omega)]
theorem scr.thPe {I J : Nat → Int → Int} {o : Nat} (h : scr I J o) (x b c : Int) : thP J o x b c ↔ thP I o x b c := by
  unfold thP
  rw [h.thLe, h.1 (o + 1) (by omega) (by omega)]
  simp only [h.chgCe]
theorem scr.md {I J : Nat → Int → Int} {o : Nat} (h : scr I J o) (k p g : Int) : scr (mdI I o k p g) (mdI J o k p g) o := by
  unfold mdI
  rw [h.2 1 (by unfold sfd; omega), h.2 2 (by unfold sfd; omega), h.2 3 (by unfold sfd; omega)]
  exact h.u.u.u.u.u.u.u.u
theorem scr.lay {I J : Nat → Int → Int} {o : Nat} (h : scr I J o) (c : Int) (L : List Int) : scr (layI I o c L) (layI J o c L) o := h.u.f (fun _ _ _ => rfl)
/-- how many conflicts so far -/
def puA (I : Nat → Int → Int) (o : Nat) (q : Int) : Nat → Int → Int := ax_u I (o + 29) 3 (I (o + 29) 3 + q)
/-- a commit is put on top -/
def puF (I : Nat → Int → Int) (o : Nat) (c : Int) (L : List Int) (q : Int) : Nat → Int → Int := if I (o + 1) c = 0 ∧ rowL I o (I o 43) = L then ax_u (puA I o q) (o + 29) 1 (I (o + 29) 1 + 1) else if I (o + 1) c = 2 ∧ I o 44 ≤ I o 43 then ax_u (layI (puA I o q) o (I o 43) L) (o + 29) 2 (I (o + 29) 2 + 1) else ax_u (layI (ax_u (mdI (puA I o q) o (I (o + 1) c) (I o 43) c) o 43 (I o 2)) o (I o 2) L) (o + 29) 0 (I (o + 29) 0 + 1)
theorem scr.pu {I J : Nat → Int → Int} {o : Nat} (h : scr I J o) (c : Int) (L : List Int) (q : Int) : scr (puF I o c L q) (puF J o c L q) o := by
  have hA : scr (puA I o q) (puA J o q) o := by
    unfold puA
    rw [h.1 (o + 29) (by omega) (by omega)]
    exact h.u
  unfold puF
  rw [h.1 (o + 1) (by omega) (by omega), h.rowLe, h.2 43 (by unfold sfd; omega), h.2 44 (by unfold sfd; omega), h.1 (o + 29) (by omega) (by omega), h.2 2 (by unfold sfd; omega)]
  split
  · exact hA.u
  · split
    · exact (hA.lay _ _).u
    · exact ((hA.md _ _ _).u.lay _ _).u
theorem puA_row {I : Nat → Int → Int} {o r : Nat} {q : Int} (h : r ≠ o + 29) : puA I o q r = I r := axu_row h
theorem puA_d {I : Nat → Int → Int} {o : Nat} {q j : Int} (h : j ≠ 3) : puA I o q (o + 29) j = I (o + 29) j := axu_j h

set_option maxHeartbeats 4000000 in
set_option maxRecDepth 100000 in
theorem m_puts {G : ax_G} {T : Nat → Nat} {N : Nat → Int} {I : Nat → Int → Int} {R : Nat → Int → Option Nat} {z o : Nat} (M : axMo T N R o) {c q : Int} {L : List Int} (hr : rM I o L) (hq : I o 22 = q) (hl : lnOk I o) (hLn : isLn L) (hL : (L.length : Int) ≤ 16) (hm : 0 ≤ (I o 2) ∧ (I o 2) < 24) (hc : 0 ≤ c ∧ c < 24) (hk : 0 ≤ I (o + 1) c ∧ I (o + 1) c ≤ 2) (ht : 0 ≤ (I o 43) ∧ (I o 43) < 24) (hf : 0 ≤ (I o 44) ∧ (I o 44) ≤ 24) : axE G YX12_puts 2 [vR o, vI c] T N I R z none (puF I o c L q) := by

  refine ax_enter (by decide) (Nat.le_of_ble_eq_true rfl) (ax_cat rfl) (fun f hC => ?_)
  show axX G f 0 0 _ 0 [vR o, vI c] [] T N I R z 0 0
  have a1 : (puA I o q) (o + 1) = I (o + 1) := puA_row (by omega)
  have aO : (puA I o q) o = I o := puA_row (by omega)
  have rA : rM (puA I o q) o L := ⟨by rw [aO]; exact hr.1, by rw [puA_row (by omega)]; exact hr.2⟩
  have lA : lnOk (puA I o q) o := lnOk_eq (puA_row (by omega)) (puA_row (by omega)) hl
  have rt : seg (rwI (puA I o q) o (I o 43)) 0 ((puA I o q) (o + 6) (I o 43)) = rowL I o (I o 43) := rowL_eq (J := puA I o q) (puA_row (by omega)) (puA_row (by omega)) _
  refine x_aload_n (pc := 0) hC dX12_puts_0 rfl ?_
  refine x_getO (pc := 1) hC gf_X12_94 dX12_puts_1 M.1 (mo_done M).1 ?_
  refine x_iconst (pc := 4) hC dX12_puts_4 ?_
  refine x_dup2 (pc := 5) hC dX12_puts_5 rfl rfl ?_
  refine x_iald (pc := 6) hC dX12_puts_6 (mo_done M).2.1 (by omega) (by rw [(mo_done M).2.2]; omega) ?_
  refine x_aload_n (pc := 7) hC dX12_puts_7 rfl ?_
  refine x_getI (pc := 8) hC gf_X12_207 dX12_puts_8 M.1 ?_
  refine x_iadd (pc := 11) hC dX12_puts_11 ?_
  refine x_iast (pc := 12) hC dX12_puts_12 (mo_done M).2.1 (by omega) (by rw [(mo_done M).2.2]; omega) ?_
  rw [hq]
  show axX G f 0 0 _ 13 _ _ _ _ (puA I o q) _ _ _ _
  refine x_aload_n (pc := 13) hC dX12_puts_13 rfl ?_
  refine x_getO (pc := 14) hC gf_X12_7 dX12_puts_14 M.1 (mo_kind M).1 ?_
  refine x_iload_n (pc := 17) hC dX12_puts_17 rfl ?_
  refine x_iald (pc := 18) hC dX12_puts_18 (mo_kind M).2.1 (by omega) (by rw [(mo_kind M).2.2]; omega) ?_
  rw [a1]
  refine x_if_ne (pc := 19) hC 46 dX12_puts_19 (by decide) (by omega) (fun b19 => ?_) (fun b19 => ?_)
  · refine x_aload_n (pc := 46) hC dX12_puts_46 rfl ?_
    refine x_getO (pc := 47) hC gf_X12_7 dX12_puts_47 M.1 (mo_kind M).1 ?_
    refine x_iload_n (pc := 50) hC dX12_puts_50 rfl ?_
    refine x_iald (pc := 51) hC dX12_puts_51 (mo_kind M).2.1 (by omega) (by rw [(mo_kind M).2.2]; omega) ?_
    refine x_iconst (pc := 52) hC dX12_puts_52 ?_
    rw [a1]
    refine x_icmp_ne (pc := 53) hC 88 dX12_puts_53 (by decide) (by omega) (by omega) (fun b53 => ?_) (fun b53 => ?_)
    · refine x_aload_n (pc := 88) hC dX12_puts_88 rfl ?_
      refine x_aload_n (pc := 89) hC dX12_puts_89 rfl ?_
      refine x_aload_n (pc := 90) hC dX12_puts_90 rfl ?_
      refine x_getO (pc := 91) hC gf_X12_7 dX12_puts_91 M.1 (mo_kind M).1 ?_
      refine x_iload_n (pc := 94) hC dX12_puts_94 rfl ?_
      refine x_iald (pc := 95) hC dX12_puts_95 (mo_kind M).2.1 (by omega) (by rw [(mo_kind M).2.2]; omega) ?_
      refine x_aload_n (pc := 96) hC dX12_puts_96 rfl ?_
      refine x_getI (pc := 97) hC gf_X12_265 dX12_puts_97 M.1 ?_
      refine x_iload_n (pc := 100) hC dX12_puts_100 rfl ?_
      rw [a1, aO]
      refine x_mV (pc := 101) hC cv_X12_118 dX12_puts_101 (m_made M (by rw [aO]; exact hm) hk (by omega)) M.1 rfl (by decide) rfl rfl (Nat.le_of_ble_eq_true rfl) ?_
      rw [aO]
      refine x_putI (pc := 104) hC pf_X12_265 dX12_puts_104 M.1 (by decide) ?_
      refine x_aload_n (pc := 107) hC dX12_puts_107 rfl ?_
      refine x_aload_n (pc := 108) hC dX12_puts_108 rfl ?_
      refine x_getI (pc := 109) hC gf_X12_265 dX12_puts_109 M.1 ?_
      have rB : rM (ax_u (mdI (puA I o q) o (I (o + 1) c) (I o 43) c) o 43 (I o 2)) o L := ⟨by rw [axu_j (by decide), md_o (by decide) (by decide) (by decide), aO]; exact hr.1, by rw [axu_row (by omega), md_row (by omega) (by omega), puA_row (by omega)]; exact hr.2⟩
      rw [axu_s]
      refine x_mV (pc := 112) hC cv_X12_213 dX12_puts_112 (m_lays M (L := L) rB (by omega) hL) M.1 rfl (by decide) rfl rfl (Nat.le_of_ble_eq_true rfl) ?_
      refine x_aload_n (pc := 115) hC dX12_puts_115 rfl ?_
      refine x_getO (pc := 116) hC gf_X12_94 dX12_puts_116 M.1 (mo_done M).1 ?_
      refine x_iconst (pc := 119) hC dX12_puts_119 ?_
      refine x_dup2 (pc := 120) hC dX12_puts_120 rfl rfl ?_
      refine x_iald (pc := 121) hC dX12_puts_121 (mo_done M).2.1 (by omega) (by rw [(mo_done M).2.2]; omega) ?_
      refine x_iconst (pc := 122) hC dX12_puts_122 ?_
      refine x_iadd (pc := 123) hC dX12_puts_123 ?_
      refine x_iast (pc := 124) hC dX12_puts_124 (mo_done M).2.1 (by omega) (by rw [(mo_done M).2.2]; omega) ?_
      refine x_vret (pc := 125) hC rfl dX12_puts_125 ?_
      refine ⟨rfl, rfl, rfl, ?_, rfl, rfl⟩
      unfold puF
      first
      | (rw [if_pos ⟨b19, b30⟩, puA_d (by decide)]; done)
      | (rw [if_neg (fun h => absurd h.1 (by omega)), if_pos ⟨b53, by omega⟩, lay_row (by omega) (by omega), puA_d (by decide)]; done)
      | (rw [if_neg (fun h => by first | exact absurd h.2 (by assumption) | omega), if_neg (by omega), lay_row (by omega) (by omega), axu_row (by omega), md_row (by omega) (by omega), puA_d (by decide)]; done)
      | (exfalso; omega)
    · refine x_aload_n (pc := 56) hC dX12_puts_56 rfl ?_
      refine x_getI (pc := 57) hC gf_X12_265 dX12_puts_57 M.1 ?_
      refine x_aload_n (pc := 60) hC dX12_puts_60 rfl ?_
      refine x_getI (pc := 61) hC gf_X12_268 dX12_puts_61 M.1 ?_
      rw [aO]
      refine x_icmp_lt (pc := 64) hC 88 dX12_puts_64 (by decide) (by omega) (by omega) (fun b64 => ?_) (fun b64 => ?_)
      · refine x_aload_n (pc := 88) hC dX12_puts_88 rfl ?_
        refine x_aload_n (pc := 89) hC dX12_puts_89 rfl ?_
        refine x_aload_n (pc := 90) hC dX12_puts_90 rfl ?_
        refine x_getO (pc := 91) hC gf_X12_7 dX12_puts_91 M.1 (mo_kind M).1 ?_
        refine x_iload_n (pc := 94) hC dX12_puts_94 rfl ?_
        refine x_iald (pc := 95) hC dX12_puts_95 (mo_kind M).2.1 (by omega) (by rw [(mo_kind M).2.2]; omega) ?_
        refine x_aload_n (pc := 96) hC dX12_puts_96 rfl ?_
        refine x_getI (pc := 97) hC gf_X12_265 dX12_puts_97 M.1 ?_
        refine x_iload_n (pc := 100) hC dX12_puts_100 rfl ?_
        rw [a1, aO]
        refine x_mV (pc := 101) hC cv_X12_118 dX12_puts_101 (m_made M (by rw [aO]; exact hm) hk (by omega)) M.1 rfl (by decide) rfl rfl (Nat.le_of_ble_eq_true rfl) ?_
        rw [aO]
        refine x_putI (pc := 104) hC pf_X12_265 dX12_puts_104 M.1 (by decide) ?_
        refine x_aload_n (pc := 107) hC dX12_puts_107 rfl ?_
        refine x_aload_n (pc := 108) hC dX12_puts_108 rfl ?_
        refine x_getI (pc := 109) hC gf_X12_265 dX12_puts_109 M.1 ?_
        have rB : rM (ax_u (mdI (puA I o q) o (I (o + 1) c) (I o 43) c) o 43 (I o 2)) o L := ⟨by rw [axu_j (by decide), md_o (by decide) (by decide) (by decide), aO]; exact hr.1, by rw [axu_row (by omega), md_row (by omega) (by omega), puA_row (by omega)]; exact hr.2⟩
        rw [axu_s]
        refine x_mV (pc := 112) hC cv_X12_213 dX12_puts_112 (m_lays M (L := L) rB (by omega) hL) M.1 rfl (by decide) rfl rfl (Nat.le_of_ble_eq_true rfl) ?_
        refine x_aload_n (pc := 115) hC dX12_puts_115 rfl ?_
        refine x_getO (pc := 116) hC gf_X12_94 dX12_puts_116 M.1 (mo_done M).1 ?_
        refine x_iconst (pc := 119) hC dX12_puts_119 ?_
        refine x_dup2 (pc := 120) hC dX12_puts_120 rfl rfl ?_
        refine x_iald (pc := 121) hC dX12_puts_121 (mo_done M).2.1 (by omega) (by rw [(mo_done M).2.2]; omega) ?_
        refine x_iconst (pc := 122) hC dX12_puts_122 ?_
        refine x_iadd (pc := 123) hC dX12_puts_123 ?_
        refine x_iast (pc := 124) hC dX12_puts_124 (mo_done M).2.1 (by omega) (by rw [(mo_done M).2.2]; omega) ?_
        refine x_vret (pc := 125) hC rfl dX12_puts_125 ?_
        refine ⟨rfl, rfl, rfl, ?_, rfl, rfl⟩
        unfold puF
        first
        | (rw [if_pos ⟨b19, b30⟩, puA_d (by decide)]; done)
        | (rw [if_neg (fun h => absurd h.1 (by omega)), if_pos ⟨b53, by omega⟩, lay_row (by omega) (by omega), puA_d (by decide)]; done)
        | (rw [if_neg (fun h => by first | exact absurd h.2 (by assumption) | omega), if_neg (by omega), lay_row (by omega) (by omega), axu_row (by omega), md_row (by omega) (by omega), puA_d (by decide)]; done)
        | (exfalso; omega)
      · refine x_aload_n (pc := 67) hC dX12_puts_67 rfl ?_
        refine x_aload_n (pc := 68) hC dX12_puts_68 rfl ?_
        refine x_getI (pc := 69) hC gf_X12_265 dX12_puts_69 M.1 ?_
        rw [aO]
        refine x_mV (pc := 72) hC cv_X12_213 dX12_puts_72 (m_lays M rA (by omega) hL) M.1 rfl (by decide) rfl rfl (Nat.le_of_ble_eq_true rfl) ?_
        refine x_aload_n (pc := 75) hC dX12_puts_75 rfl ?_
        refine x_getO (pc := 76) hC gf_X12_94 dX12_puts_76 M.1 (mo_done M).1 ?_
        refine x_iconst (pc := 79) hC dX12_puts_79 ?_
        refine x_dup2 (pc := 80) hC dX12_puts_80 rfl rfl ?_
        refine x_iald (pc := 81) hC dX12_puts_81 (mo_done M).2.1 (by omega) (by rw [(mo_done M).2.2]; omega) ?_
        refine x_iconst (pc := 82) hC dX12_puts_82 ?_
        refine x_iadd (pc := 83) hC dX12_puts_83 ?_
        refine x_iast (pc := 84) hC dX12_puts_84 (mo_done M).2.1 (by omega) (by rw [(mo_done M).2.2]; omega) ?_
        refine x_goto (pc := 85) hC 125 dX12_puts_85 (by decide) ?_
        refine x_vret (pc := 125) hC rfl dX12_puts_125 ?_
        refine ⟨rfl, rfl, rfl, ?_, rfl, rfl⟩
        unfold puF
        first
        | (rw [if_pos ⟨b19, b30⟩, puA_d (by decide)]; done)
        | (rw [if_neg (fun h => absurd h.1 (by omega)), if_pos ⟨b53, by omega⟩, lay_row (by omega) (by omega), puA_d (by decide)]; done)
        | (rw [if_neg (fun h => by first | exact absurd h.2 (by assumption) | omega), if_neg (by omega), lay_row (by omega) (by omega), axu_row (by omega), md_row (by omega) (by omega), puA_d (by decide)]; done)
        | (exfalso; omega)
  · refine x_aload_n (pc := 22) hC dX12_puts_22 rfl ?_
    refine x_aload_n (pc := 23) hC dX12_puts_23 rfl ?_
    refine x_getI (pc := 24) hC gf_X12_265 dX12_puts_24 M.1 ?_
    rw [aO]
    refine x_mV (pc := 27) hC cv_X12_216 dX12_puts_27 (m_isResult M rA lA hLn (by omega) (by omega)) M.1 rfl (by decide) rfl rfl (Nat.le_of_ble_eq_true rfl) ?_
    rw [rt]
    refine x_ifB_eq (pc := 30) hC 46 dX12_puts_30 (by decide) (fun b30 => ?_) (fun b30 => ?_)
    · refine x_aload_n (pc := 46) hC dX12_puts_46 rfl ?_
      refine x_getO (pc := 47) hC gf_X12_7 dX12_puts_47 M.1 (mo_kind M).1 ?_
      refine x_iload_n (pc := 50) hC dX12_puts_50 rfl ?_
      refine x_iald (pc := 51) hC dX12_puts_51 (mo_kind M).2.1 (by omega) (by rw [(mo_kind M).2.2]; omega) ?_
      refine x_iconst (pc := 52) hC dX12_puts_52 ?_
      rw [a1]
      refine x_icmp_ne (pc := 53) hC 88 dX12_puts_53 (by decide) (by omega) (by omega) (fun b53 => ?_) (fun b53 => ?_)
      · refine x_aload_n (pc := 88) hC dX12_puts_88 rfl ?_
        refine x_aload_n (pc := 89) hC dX12_puts_89 rfl ?_
        refine x_aload_n (pc := 90) hC dX12_puts_90 rfl ?_
        refine x_getO (pc := 91) hC gf_X12_7 dX12_puts_91 M.1 (mo_kind M).1 ?_
        refine x_iload_n (pc := 94) hC dX12_puts_94 rfl ?_
        refine x_iald (pc := 95) hC dX12_puts_95 (mo_kind M).2.1 (by omega) (by rw [(mo_kind M).2.2]; omega) ?_
        refine x_aload_n (pc := 96) hC dX12_puts_96 rfl ?_
        refine x_getI (pc := 97) hC gf_X12_265 dX12_puts_97 M.1 ?_
        refine x_iload_n (pc := 100) hC dX12_puts_100 rfl ?_
        rw [a1, aO]
        refine x_mV (pc := 101) hC cv_X12_118 dX12_puts_101 (m_made M (by rw [aO]; exact hm) hk (by omega)) M.1 rfl (by decide) rfl rfl (Nat.le_of_ble_eq_true rfl) ?_
        rw [aO]
        refine x_putI (pc := 104) hC pf_X12_265 dX12_puts_104 M.1 (by decide) ?_
        refine x_aload_n (pc := 107) hC dX12_puts_107 rfl ?_
        refine x_aload_n (pc := 108) hC dX12_puts_108 rfl ?_
        refine x_getI (pc := 109) hC gf_X12_265 dX12_puts_109 M.1 ?_
        have rB : rM (ax_u (mdI (puA I o q) o (I (o + 1) c) (I o 43) c) o 43 (I o 2)) o L := ⟨by rw [axu_j (by decide), md_o (by decide) (by decide) (by decide), aO]; exact hr.1, by rw [axu_row (by omega), md_row (by omega) (by omega), puA_row (by omega)]; exact hr.2⟩
        rw [axu_s]
        refine x_mV (pc := 112) hC cv_X12_213 dX12_puts_112 (m_lays M (L := L) rB (by omega) hL) M.1 rfl (by decide) rfl rfl (Nat.le_of_ble_eq_true rfl) ?_
        refine x_aload_n (pc := 115) hC dX12_puts_115 rfl ?_
        refine x_getO (pc := 116) hC gf_X12_94 dX12_puts_116 M.1 (mo_done M).1 ?_
        refine x_iconst (pc := 119) hC dX12_puts_119 ?_
        refine x_dup2 (pc := 120) hC dX12_puts_120 rfl rfl ?_
        refine x_iald (pc := 121) hC dX12_puts_121 (mo_done M).2.1 (by omega) (by rw [(mo_done M).2.2]; omega) ?_
        refine x_iconst (pc := 122) hC dX12_puts_122 ?_
        refine x_iadd (pc := 123) hC dX12_puts_123 ?_
        refine x_iast (pc := 124) hC dX12_puts_124 (mo_done M).2.1 (by omega) (by rw [(mo_done M).2.2]; omega) ?_
        refine x_vret (pc := 125) hC rfl dX12_puts_125 ?_
        refine ⟨rfl, rfl, rfl, ?_, rfl, rfl⟩
        unfold puF
        first
        | (rw [if_pos ⟨b19, b30⟩, puA_d (by decide)]; done)
        | (rw [if_neg (fun h => absurd h.1 (by omega)), if_pos ⟨b53, by omega⟩, lay_row (by omega) (by omega), puA_d (by decide)]; done)
        | (rw [if_neg (fun h => by first | exact absurd h.2 (by assumption) | omega), if_neg (by omega), lay_row (by omega) (by omega), axu_row (by omega), md_row (by omega) (by omega), puA_d (by decide)]; done)
        | (exfalso; omega)
      · refine x_aload_n (pc := 56) hC dX12_puts_56 rfl ?_
        refine x_getI (pc := 57) hC gf_X12_265 dX12_puts_57 M.1 ?_
        refine x_aload_n (pc := 60) hC dX12_puts_60 rfl ?_
        refine x_getI (pc := 61) hC gf_X12_268 dX12_puts_61 M.1 ?_
        rw [aO]
        refine x_icmp_lt (pc := 64) hC 88 dX12_puts_64 (by decide) (by omega) (by omega) (fun b64 => ?_) (fun b64 => ?_)
        · refine x_aload_n (pc := 88) hC dX12_puts_88 rfl ?_
          refine x_aload_n (pc := 89) hC dX12_puts_89 rfl ?_
          refine x_aload_n (pc := 90) hC dX12_puts_90 rfl ?_
          refine x_getO (pc := 91) hC gf_X12_7 dX12_puts_91 M.1 (mo_kind M).1 ?_
          refine x_iload_n (pc := 94) hC dX12_puts_94 rfl ?_
          refine x_iald (pc := 95) hC dX12_puts_95 (mo_kind M).2.1 (by omega) (by rw [(mo_kind M).2.2]; omega) ?_
          refine x_aload_n (pc := 96) hC dX12_puts_96 rfl ?_
          refine x_getI (pc := 97) hC gf_X12_265 dX12_puts_97 M.1 ?_
          refine x_iload_n (pc := 100) hC dX12_puts_100 rfl ?_
          rw [a1, aO]
          refine x_mV (pc := 101) hC cv_X12_118 dX12_puts_101 (m_made M (by rw [aO]; exact hm) hk (by omega)) M.1 rfl (by decide) rfl rfl (Nat.le_of_ble_eq_true rfl) ?_
          rw [aO]
          refine x_putI (pc := 104) hC pf_X12_265 dX12_puts_104 M.1 (by decide) ?_
          refine x_aload_n (pc := 107) hC dX12_puts_107 rfl ?_
          refine x_aload_n (pc := 108) hC dX12_puts_108 rfl ?_
          refine x_getI (pc := 109) hC gf_X12_265 dX12_puts_109 M.1 ?_
          have rB : rM (ax_u (mdI (puA I o q) o (I (o + 1) c) (I o 43) c) o 43 (I o 2)) o L := ⟨by rw [axu_j (by decide), md_o (by decide) (by decide) (by decide), aO]; exact hr.1, by rw [axu_row (by omega), md_row (by omega) (by omega), puA_row (by omega)]; exact hr.2⟩
          rw [axu_s]
          refine x_mV (pc := 112) hC cv_X12_213 dX12_puts_112 (m_lays M (L := L) rB (by omega) hL) M.1 rfl (by decide) rfl rfl (Nat.le_of_ble_eq_true rfl) ?_
          refine x_aload_n (pc := 115) hC dX12_puts_115 rfl ?_
          refine x_getO (pc := 116) hC gf_X12_94 dX12_puts_116 M.1 (mo_done M).1 ?_
          refine x_iconst (pc := 119) hC dX12_puts_119 ?_
          refine x_dup2 (pc := 120) hC dX12_puts_120 rfl rfl ?_
          refine x_iald (pc := 121) hC dX12_puts_121 (mo_done M).2.1 (by omega) (by rw [(mo_done M).2.2]; omega) ?_
          refine x_iconst (pc := 122) hC dX12_puts_122 ?_
          refine x_iadd (pc := 123) hC dX12_puts_123 ?_
          refine x_iast (pc := 124) hC dX12_puts_124 (mo_done M).2.1 (by omega) (by rw [(mo_done M).2.2]; omega) ?_
          refine x_vret (pc := 125) hC rfl dX12_puts_125 ?_
          refine ⟨rfl, rfl, rfl, ?_, rfl, rfl⟩
          unfold puF
          first
          | (rw [if_pos ⟨b19, b30⟩, puA_d (by decide)]; done)
          | (rw [if_neg (fun h => absurd h.1 (by omega)), if_pos ⟨b53, by omega⟩, lay_row (by omega) (by omega), puA_d (by decide)]; done)
          | (rw [if_neg (fun h => by first | exact absurd h.2 (by assumption) | omega), if_neg (by omega), lay_row (by omega) (by omega), axu_row (by omega), md_row (by omega) (by omega), puA_d (by decide)]; done)
          | (exfalso; omega)
        · refine x_aload_n (pc := 67) hC dX12_puts_67 rfl ?_
          refine x_aload_n (pc := 68) hC dX12_puts_68 rfl ?_
          refine x_getI (pc := 69) hC gf_X12_265 dX12_puts_69 M.1 ?_
          rw [aO]
          refine x_mV (pc := 72) hC cv_X12_213 dX12_puts_72 (m_lays M rA (by omega) hL) M.1 rfl (by decide) rfl rfl (Nat.le_of_ble_eq_true rfl) ?_
          refine x_aload_n (pc := 75) hC dX12_puts_75 rfl ?_
          refine x_getO (pc := 76) hC gf_X12_94 dX12_puts_76 M.1 (mo_done M).1 ?_
          refine x_iconst (pc := 79) hC dX12_puts_79 ?_
          refine x_dup2 (pc := 80) hC dX12_puts_80 rfl rfl ?_
          refine x_iald (pc := 81) hC dX12_puts_81 (mo_done M).2.1 (by omega) (by rw [(mo_done M).2.2]; omega) ?_
          refine x_iconst (pc := 82) hC dX12_puts_82 ?_
          refine x_iadd (pc := 83) hC dX12_puts_83 ?_
          refine x_iast (pc := 84) hC dX12_puts_84 (mo_done M).2.1 (by omega) (by rw [(mo_done M).2.2]; omega) ?_
          refine x_goto (pc := 85) hC 125 dX12_puts_85 (by decide) ?_
          refine x_vret (pc := 125) hC rfl dX12_puts_125 ?_
          refine ⟨rfl, rfl, rfl, ?_, rfl, rfl⟩
          unfold puF
          first
          | (rw [if_pos ⟨b19, b30⟩, puA_d (by decide)]; done)
          | (rw [if_neg (fun h => absurd h.1 (by omega)), if_pos ⟨b53, by omega⟩, lay_row (by omega) (by omega), puA_d (by decide)]; done)
          | (rw [if_neg (fun h => by first | exact absurd h.2 (by assumption) | omega), if_neg (by omega), lay_row (by omega) (by omega), axu_row (by omega), md_row (by omega) (by omega), puA_d (by decide)]; done)
          | (exfalso; omega)
    · refine x_aload_n (pc := 33) hC dX12_puts_33 rfl ?_
      refine x_getO (pc := 34) hC gf_X12_94 dX12_puts_34 M.1 (mo_done M).1 ?_
      refine x_iconst (pc := 37) hC dX12_puts_37 ?_
      refine x_dup2 (pc := 38) hC dX12_puts_38 rfl rfl ?_
      refine x_iald (pc := 39) hC dX12_puts_39 (mo_done M).2.1 (by omega) (by rw [(mo_done M).2.2]; omega) ?_
      refine x_iconst (pc := 40) hC dX12_puts_40 ?_
      refine x_iadd (pc := 41) hC dX12_puts_41 ?_
      refine x_iast (pc := 42) hC dX12_puts_42 (mo_done M).2.1 (by omega) (by rw [(mo_done M).2.2]; omega) ?_
      refine x_goto (pc := 43) hC 125 dX12_puts_43 (by decide) ?_
      refine x_vret (pc := 125) hC rfl dX12_puts_125 ?_
      refine ⟨rfl, rfl, rfl, ?_, rfl, rfl⟩
      unfold puF
      first
      | (rw [if_pos ⟨b19, b30⟩, puA_d (by decide)]; done)
      | (rw [if_neg (fun h => absurd h.1 (by omega)), if_pos ⟨b53, by omega⟩, lay_row (by omega) (by omega), puA_d (by decide)]; done)
      | (rw [if_neg (fun h => by first | exact absurd h.2 (by assumption) | omega), if_neg (by omega), lay_row (by omega) (by omega), axu_row (by omega), md_row (by omega) (by omega), puA_d (by decide)]; done)
      | (exfalso; omega)

