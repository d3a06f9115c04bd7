/-! THE REFERENCE: slots -/
def clI (I : Nat → Int → Int) (o : Nat) (s t n : Int) : Nat → Int → Int := ax_f (ax_u (ax_u I (o + 31) s t) (o + 32) s n) (o + 33) (24 * s) 24 (fun _ => 0)
def bl (I : Nat → Int → Int) (o : Nat) (s t n : Int) : Int × (Nat → Int → Int) := if 0 ≤ s ∧ s < 5 then (if (0 ≤ t ∧ t ≤ 1) ∧ n ≤ 24 then (if 0 ≤ n then (1, ax_u (clI I o s t n) o 0 0) else (-14, ax_u I o 0 4)) else (-2, ax_u I o 0 0)) else (-1, ax_u I o 0 0)
def sh (I : Nat → Int → Int) (o : Nat) (s c : Int) : Int × (Nat → Int → Int) := if (0 ≤ s ∧ s < 5) ∧ 0 ≤ c ∧ c < I o 2 then (I (o + 6) c, ax_f (clI I o s 0 (I (o + 6) c)) (o + 33) (24 * s) (I (o + 6) c) (fun j => I (o + 5) (16 * c + (j - 24 * s)))) else (-1, I)
def tl (I : Nat → Int → Int) (o : Nat) (s c : Int) : Int × (Nat → Int → Int) := if (0 ≤ s ∧ s < 5) ∧ 0 ≤ c ∧ c < I o 2 then (((path (I (o + 2)) c).length : Int), ax_f (clI I o s 1 ((path (I (o + 2)) c).length : Int)) (o + 33) (24 * s) (path (I (o + 2)) c).length (fun j => lf (path (I (o + 2)) c).reverse (j - 24 * s))) else (-1, I)
def hd (I : Nat → Int → Int) (o : Nat) (s c : Int) : Int × (Nat → Int → Int) := if (0 ≤ s ∧ s < 5) ∧ 0 ≤ c ∧ c < I o 2 then (1, ax_u (ax_u (ax_u (clI I o s 2 0) (o + 34) s c) (o + 35) s (I (o + 1) c)) (o + 36) s (I (o + 4) c)) else (-1, I)
def he (I : Nat → Int → Int) (o : Nat) (s : Int) : Int × (Nat → Int → Int) := if 0 ≤ s ∧ s < 5 then (if I (o + 31) s = 0 ∨ I (o + 31) s = 1 then (-12, ax_u I o 0 2) else if I (o + 31) s = -9 then (-11, ax_u I o 0 1) else (if I (o + 34) s < I o 2 ∧ I (o + 4) (I (o + 34) s) = I (o + 36) s then I (o + 34) s else -9, ax_u I o 0 0)) else (-1, ax_u I o 0 0)
abbrev asP (I : Nat → Int → Int) (o : Nat) (s w : Int) : Prop := if w < 2 then I (o + 31) s = w else I (o + 31) s = 2 ∧ w - 2 ≤ I (o + 35) s
def asR (I : Nat → Int → Int) (o : Nat) (s w : Int) : Int × (Nat → Int → Int) := if 0 ≤ s ∧ s < 5 then (if 0 ≤ w ∧ w ≤ 4 then (if I (o + 31) s = -9 then (-11, ax_u I o 0 1) else if asP I o s w then (1, ax_u I o 0 0) else (-12, ax_u I o 0 2)) else (-2, ax_u I o 0 0)) else (-1, ax_u I o 0 0)
def lo (I : Nat → Int → Int) (o : Nat) (s : Int) : Int × (Nat → Int → Int) := if 0 ≤ s ∧ s < 5 then (if I (o + 31) s = -9 then 0 else 1, ax_u I (o + 31) s (-9)) else (-1, I)
def anR (I : Nat → Int → Int) (o : Nat) (s i : Int) : Int := if I (o + 31) s = 2 then 2 else if I (o + 31) s = -9 then 1 else if 0 ≤ i ∧ i < I (o + 32) s then 0 else 3
def wr (I : Nat → Int → Int) (o : Nat) (s i v : Int) : Int × (Nat → Int → Int) := if 0 ≤ s ∧ s < 5 then (if anR I o s i = 0 then (1, ax_u (ax_u I (o + 33) (24 * s + i) (if I (o + 31) s = 0 then v.bmod 256 else v)) o 0 0) else (-10 - anR I o s i, ax_u I o 0 (anR I o s i))) else (-1, ax_u I o 0 0)
def nu (I : Nat → Int → Int) (o : Nat) (s i : Int) : Int × (Nat → Int → Int) := if 0 ≤ s ∧ s < 5 then (if anR I o s i = 0 then (I (o + 33) (24 * s + i), ax_u (ax_u I o 0 0) o 0 0) else (-9223372036854775808, ax_u (ax_u I o 0 0) o 0 (anR I o s i))) else (-9223372036854775808, ax_u I o 0 0)
def cp (I : Nat → Int → Int) (o : Nat) (s i d j n : Int) : Int × (Nat → Int → Int) :=
  if (0 ≤ s ∧ s < 5) ∧ 0 ≤ d ∧ d < 5 then
    if I (o + 31) s = -9 ∨ I (o + 31) d = -9 then (-11, ax_u I o 0 1)
    else if I (o + 31) s = 2 ∨ I (o + 31) s ≠ I (o + 31) d then (-12, ax_u I o 0 2)
    else if 0 ≤ i ∧ 0 ≤ j ∧ 0 ≤ n ∧ i ≤ I (o + 32) s ∧ j ≤ I (o + 32) d ∧ n ≤ I (o + 32) s - i ∧ n ≤ I (o + 32) d - j then (n, ax_u (ax_f I (o + 33) (24 * d + j) n (fun q => I (o + 33) (24 * s + i + (q - (24 * d + j))))) o 0 0)
    else (-13, ax_u I o 0 3)
  else (-1, ax_u I o 0 0)
def te (I : Nat → Int → Int) (o : Nat) (c : Int) : Int × (Nat → Int → Int) := if 0 ≤ c ∧ c < I o 2 then (I (o + 6) c + 100 * I (o + 1) c, ax_u I o 1 (31 * (if 0 < I (o + 1) c then 31 * I o 1 + (if I (o + 1) c = 1 then 12 else 13) else I o 1) + 11)) else (-1, I)
def mnR (I : Nat → Int → Int) (o : Nat) (w : Int) : Int := if w = 0 then I o 2 else if w = 1 then I o 30 else if w = 2 then (((seg id 0 (I o 2)).filter (fun y => decide (y ∈ path (I (o + 2)) (I (o + 7) 0) ∨ y ∈ path (I (o + 2)) (I (o + 7) 1) ∨ y ∈ path (I (o + 2)) (I (o + 7) 2) ∨ y ∈ path (I (o + 2)) (I (o + 7) 3)))).length : Int) else if w = 3 then (((seg id 0 5).filter (fun s => decide (I (o + 31) s ≠ -9))).length : Int) else -2
theorem axf_down {I : Nat → Int → Int} {a : Nat} {lo n j v : Int} {g : Int → Int} (hn : 0 ≤ n) (hj : j = lo - 1) (hv : v = g j) : ax_u (ax_f I a lo n g) a j v = ax_f I a (lo - 1) (n + 1) g := by
  funext b i
  subst hj hv
  by_cases hb : b = a
  · subst hb
    by_cases hi : i = lo - 1
    · subst hi; rw [axu_s, axf_in (by omega) (by omega)]
    · rw [axu_j hi]
      by_cases h2 : lo ≤ i ∧ i < lo + n
      · rw [axf_in h2.1 h2.2, axf_in (by omega) (by omega)]
      · rw [axf_out (by omega), axf_out (by omega)]
  · rw [axu_a hb, axf_a hb, axf_a hb]

set_option maxHeartbeats 4000000 in
set_option maxRecDepth 100000 in
theorem m_clears {G : ax_G} {T : Nat → Nat} {N : Nat → Int} {I : Nat → Int → Int} {R : Nat → Int → Option Nat} {z o : Nat} (M : axMo T N R o) {s t n : Int} (hs : 0 ≤ s ∧ s < 5) : axE G YX12_clears 0 [vR o, vI s, vI t, vI n] T N I R z none (clI I o s t n) := by

  refine ax_enter (by decide) (Nat.le_of_ble_eq_true rfl) (ax_cat rfl) (fun f hC => ?_)
  show axX G f 0 0 _ 0 [vR o, vI s, vI t, vI n, vU] [] T N I R z 0 0
  have loop : ∀ (m : Nat) (y : Int), (24 - y).toNat ≤ m → 0 ≤ y → y ≤ 24 → axX G f 0 0 (fun r1 T1 N1 I1 R1 z1 => r1 = none ∧ T1 = T ∧ N1 = N ∧ I1 = (clI I o s t n) ∧ R1 = R ∧ z1 = z) 17 [vR o, vI s, vI t, vI n, vI y] [] T N (ax_f (ax_u (ax_u I (o + 31) s t) (o + 32) s n) (o + 33) (24 * s) y (fun _ => 0)) R z 0 0 := by
    intro m
    induction m with
    | zero =>
      intro y hn h0 h1
      refine x_iload (pc := 17) hC dX12_clears_17 rfl ?_
      refine x_bipush (pc := 19) hC dX12_clears_19 (by decide) ?_
      refine x_icmp_ge (pc := 21) hC 43 dX12_clears_21 (by decide) (by omega) (by omega) (fun b21 => ?_) (fun b21 => ?_)
      · refine x_vret (pc := 43) hC rfl dX12_clears_43 ?_
        have hy : y = 24 := by omega
        subst hy
        exact ⟨rfl, rfl, rfl, rfl, rfl, rfl⟩
      · omega
    | succ m ih =>
      intro y hn h0 h1
      refine x_iload (pc := 17) hC dX12_clears_17 rfl ?_
      refine x_bipush (pc := 19) hC dX12_clears_19 (by decide) ?_
      refine x_icmp_ge (pc := 21) hC 43 dX12_clears_21 (by decide) (by omega) (by omega) (fun b21 => ?_) (fun b21 => ?_)
      · refine x_vret (pc := 43) hC rfl dX12_clears_43 ?_
        have hy : y = 24 := by omega
        subst hy
        exact ⟨rfl, rfl, rfl, rfl, rfl, rfl⟩
      · refine x_aload_n (pc := 24) hC dX12_clears_24 rfl ?_
        refine x_getO (pc := 25) hC gf_X12_106 dX12_clears_25 M.1 (mo_cells M).1 ?_
        refine x_bipush (pc := 28) hC dX12_clears_28 (by decide) ?_
        refine x_iload_n (pc := 30) hC dX12_clears_30 rfl ?_
        refine x_imul (pc := 31) hC dX12_clears_31 ?_
        refine x_iload (pc := 32) hC dX12_clears_32 rfl ?_
        refine x_iadd (pc := 34) hC dX12_clears_34 ?_
        refine x_iconst (pc := 35) hC dX12_clears_35 ?_
        refine x_iast (pc := 36) hC dX12_clears_36 (mo_cells M).2.1 (by omega) (by rw [(mo_cells M).2.2]; omega) ?_
        refine x_iinc (pc := 37) hC dX12_clears_37 rfl ?_
        dsimp only [List.set]
        refine x_goto (pc := 40) hC 17 dX12_clears_40 (by decide) ?_
        rw [axf_step h0 rfl rfl]
        exact ih (y + 1) (by omega) (by omega) (by omega)
  refine x_aload_n (pc := 0) hC dX12_clears_0 rfl ?_
  refine x_getO (pc := 1) hC gf_X12_100 dX12_clears_1 M.1 (mo_slotSort M).1 ?_
  refine x_iload_n (pc := 4) hC dX12_clears_4 rfl ?_
  refine x_iload_n (pc := 5) hC dX12_clears_5 rfl ?_
  refine x_iast (pc := 6) hC dX12_clears_6 (mo_slotSort M).2.1 (by omega) (by rw [(mo_slotSort M).2.2]; omega) ?_
  refine x_aload_n (pc := 7) hC dX12_clears_7 rfl ?_
  refine x_getO (pc := 8) hC gf_X12_103 dX12_clears_8 M.1 (mo_slotSize M).1 ?_
  refine x_iload_n (pc := 11) hC dX12_clears_11 rfl ?_
  refine x_iload_n (pc := 12) hC dX12_clears_12 rfl ?_
  refine x_iast (pc := 13) hC dX12_clears_13 (mo_slotSize M).2.1 (by omega) (by rw [(mo_slotSize M).2.2]; omega) ?_
  refine x_iconst (pc := 14) hC dX12_clears_14 ?_
  refine x_istore (pc := 15) hC dX12_clears_15 (Nat.le_of_ble_eq_true rfl) ?_
  dsimp only [List.set]
  have := loop _ 0 (Nat.le_refl _) (by omega) (by omega)
  rw [axf_0] at this
  exact this

set_option maxHeartbeats 4000000 in
set_option maxRecDepth 100000 in
theorem m_blank {G : ax_G} {T : Nat → Nat} {N : Nat → Int} {I : Nat → Int → Int} {R : Nat → Int → Option Nat} {z o : Nat} (M : axMo T N R o) {s t n : Int} (hs : ax_r s) (ht : ax_r t) (hn : ax_r n) : axE G YX12_blank 2 [vR o, vI s, vI t, vI n] T N I R z (some (vI (bl I o s t n).1)) (bl I o s t n).2 := by

  refine ax_enter (by decide) (Nat.le_of_ble_eq_true rfl) (ax_cat rfl) (fun f hC => ?_)
  show axX G f 0 0 _ 0 [vR o, vI s, vI t, vI n] [] T N I R z 0 0
  refine x_iload_n (pc := 0) hC dX12_blank_0 rfl ?_
  refine x_mS (pc := 1) hC cs_X12_186 dX12_blank_1 (m_isSlot hs) rfl (by decide) rfl rfl (Nat.le_of_ble_eq_true rfl) ?_
  refine x_ifB_ne (pc := 4) hC 13 dX12_blank_4 (by decide) (fun b4 => ?_) (fun b4 => ?_)
  · refine x_iload_n (pc := 13) hC dX12_blank_13 rfl ?_
    refine x_iconst (pc := 14) hC dX12_blank_14 ?_
    refine x_iconst (pc := 15) hC dX12_blank_15 ?_
    refine x_mS (pc := 16) hC cs_X12_139 dX12_blank_16 (m_within ht (by decide) (by decide)) rfl (by decide) rfl rfl (Nat.le_of_ble_eq_true rfl) ?_
    refine x_ifB_eq (pc := 19) hC 28 dX12_blank_19 (by decide) (fun b19 => ?_) (fun b19 => ?_)
    · refine x_aload_n (pc := 28) hC dX12_blank_28 rfl ?_
      refine x_bipush (pc := 29) hC dX12_blank_29 (by decide) ?_
      refine x_mV (pc := 31) hC cv_X12_325 dX12_blank_31 (m_refused M) M.1 rfl (by decide) rfl rfl (Nat.le_of_ble_eq_true rfl) ?_
      refine x_iret (pc := 34) hC rfl dX12_blank_34 ?_
      refine ⟨?_, rfl, rfl, ?_, rfl, rfl⟩
      · unfold bl; rw [if_pos b4, if_neg (by omega)]; try rfl
      · unfold bl; rw [if_pos b4, if_neg (by omega)]; try rfl
    · refine x_iload_n (pc := 22) hC dX12_blank_22 rfl ?_
      refine x_bipush (pc := 23) hC dX12_blank_23 (by decide) ?_
      refine x_icmp_le (pc := 25) hC 35 dX12_blank_25 (by decide) (by omega) (by omega) (fun b25 => ?_) (fun b25 => ?_)
      · refine x_iload_n (pc := 35) hC dX12_blank_35 rfl ?_
        refine x_if_ge (pc := 36) hC 45 dX12_blank_36 (by decide) (by omega) (fun b36 => ?_) (fun b36 => ?_)
        · refine x_aload_n (pc := 45) hC dX12_blank_45 rfl ?_
          refine x_iload_n (pc := 46) hC dX12_blank_46 rfl ?_
          refine x_iload_n (pc := 47) hC dX12_blank_47 rfl ?_
          refine x_iload_n (pc := 48) hC dX12_blank_48 rfl ?_
          refine x_mV (pc := 49) hC cv_X12_328 dX12_blank_49 (m_clears M b4) M.1 rfl (by decide) rfl rfl (Nat.le_of_ble_eq_true rfl) ?_
          refine x_aload_n (pc := 52) hC dX12_blank_52 rfl ?_
          refine x_iconst (pc := 53) hC dX12_blank_53 ?_
          refine x_mV (pc := 54) hC cv_X12_325 dX12_blank_54 (m_refused M) M.1 rfl (by decide) rfl rfl (Nat.le_of_ble_eq_true rfl) ?_
          refine x_iret (pc := 57) hC rfl dX12_blank_57 ?_
          refine ⟨?_, rfl, rfl, ?_, rfl, rfl⟩
          · unfold bl; rw [if_pos b4, if_pos (by omega), if_pos (by omega)]; try rfl
          · unfold bl; rw [if_pos b4, if_pos (by omega), if_pos (by omega)]; try rfl
        · refine x_aload_n (pc := 39) hC dX12_blank_39 rfl ?_
          refine x_iconst (pc := 40) hC dX12_blank_40 ?_
          refine x_mV (pc := 41) hC cv_X12_192 dX12_blank_41 (m_fails M) M.1 rfl (by decide) rfl rfl (Nat.le_of_ble_eq_true rfl) ?_
          refine x_iret (pc := 44) hC rfl dX12_blank_44 ?_
          refine ⟨?_, rfl, rfl, ?_, rfl, rfl⟩
          · unfold bl; rw [if_pos b4, if_pos (by omega), if_neg (by omega)]; try rfl
          · unfold bl; rw [if_pos b4, if_pos (by omega), if_neg (by omega)]; try rfl
      · refine x_aload_n (pc := 28) hC dX12_blank_28 rfl ?_
        refine x_bipush (pc := 29) hC dX12_blank_29 (by decide) ?_
        refine x_mV (pc := 31) hC cv_X12_325 dX12_blank_31 (m_refused M) M.1 rfl (by decide) rfl rfl (Nat.le_of_ble_eq_true rfl) ?_
        refine x_iret (pc := 34) hC rfl dX12_blank_34 ?_
        refine ⟨?_, rfl, rfl, ?_, rfl, rfl⟩
        · unfold bl; rw [if_pos b4, if_neg (by omega)]; try rfl
        · unfold bl; rw [if_pos b4, if_neg (by omega)]; try rfl
  · refine x_aload_n (pc := 7) hC dX12_blank_7 rfl ?_
    refine x_iconst (pc := 8) hC dX12_blank_8 ?_
    refine x_mV (pc := 9) hC cv_X12_325 dX12_blank_9 (m_refused M) M.1 rfl (by decide) rfl rfl (Nat.le_of_ble_eq_true rfl) ?_
    refine x_iret (pc := 12) hC rfl dX12_blank_12 ?_
    refine ⟨?_, rfl, rfl, ?_, rfl, rfl⟩
    · unfold bl; rw [if_neg b4]; try rfl
    · unfold bl; rw [if_neg b4]; try rfl

set_option maxHeartbeats 4000000 in
set_option maxRecDepth 100000 in
theorem m_show {G : ax_G} {T : Nat → Nat} {N : Nat → Int} {I : Nat → Int → Int} {R : Nat → Int → Option Nat} {z o : Nat} (M : axMo T N R o) {s c : Int} (hm : 1 ≤ (I o 2) ∧ (I o 2) ≤ 24) (hl : lnOk I o) (hs : ax_r s) (hc : ax_r c) : axE G YX12_show 2 [vR o, vI s, vI c] T N I R z (some (vI (sh I o s c).1)) (sh I o s c).2 := by

  refine ax_enter (by decide) (Nat.le_of_ble_eq_true rfl) (ax_cat rfl) (fun f hC => ?_)
  show axX G f 0 0 _ 0 [vR o, vI s, vI c, vU] [] T N I R z 0 0
  have loop : (0 ≤ s ∧ s < 5) → (0 ≤ c ∧ c < (I o 2)) → ∀ (m : Nat) (y : Int), (I (o + 6) c - y).toNat ≤ m → 0 ≤ y → y ≤ I (o + 6) c → axX G f 0 0 (fun r1 T1 N1 I1 R1 z1 => r1 = some (vI (sh I o s c).1) ∧ T1 = T ∧ N1 = N ∧ I1 = (sh I o s c).2 ∧ R1 = R ∧ z1 = z) 31 [vR o, vI s, vI c, vI y] [] T N (ax_f (clI I o s 0 (I (o + 6) c)) (o + 33) (24 * s) y (fun j => I (o + 5) (16 * c + (j - 24 * s)))) R z 0 0 := by
    intro hs1 hc1 m
    have hz := hl.2 c
    have e6 : ∀ y, (ax_f (clI I o s 0 (I (o + 6) c)) (o + 33) (24 * s) y (fun j => I (o + 5) (16 * c + (j - 24 * s)))) (o + 6) c = I (o + 6) c := fun y => by unfold clI; rw [axf_a (by omega), axf_a (by omega), axu_a (by omega), axu_a (by omega)]
    have e5 : ∀ y j, (ax_f (clI I o s 0 (I (o + 6) c)) (o + 33) (24 * s) y (fun j => I (o + 5) (16 * c + (j - 24 * s)))) (o + 5) j = I (o + 5) j := fun y j => by unfold clI; rw [axf_a (by omega), axf_a (by omega), axu_a (by omega), axu_a (by omega)]
    induction m with
    | zero =>
      intro y hn h0 h1
      refine x_iload_n (pc := 31) hC dX12_show_31 rfl ?_
      refine x_aload_n (pc := 32) hC dX12_show_32 rfl ?_
      refine x_getO (pc := 33) hC gf_X12_25 dX12_show_33 M.1 (mo_size M).1 ?_
      refine x_iload_n (pc := 36) hC dX12_show_36 rfl ?_
      refine x_iald (pc := 37) hC dX12_show_37 (mo_size M).2.1 (by omega) (by rw [(mo_size M).2.2]; omega) ?_
      rw [e6]
      refine x_icmp_ge (pc := 38) hC 69 dX12_show_38 (by decide) (by omega) (by omega) (fun b38 => ?_) (fun b38 => ?_)
      · refine x_aload_n (pc := 69) hC dX12_show_69 rfl ?_
        refine x_getO (pc := 70) hC gf_X12_25 dX12_show_70 M.1 (mo_size M).1 ?_
        refine x_iload_n (pc := 73) hC dX12_show_73 rfl ?_
        refine x_iald (pc := 74) hC dX12_show_74 (mo_size M).2.1 (by omega) (by rw [(mo_size M).2.2]; omega) ?_
        rw [e6]
        refine x_iret (pc := 75) hC rfl dX12_show_75 ?_
        have hy : y = I (o + 6) c := by omega
        subst hy
        refine ⟨?_, rfl, rfl, ?_, rfl, rfl⟩
        · unfold sh; rw [if_pos ⟨hs1, hc1⟩]; try rfl
        · unfold sh; rw [if_pos ⟨hs1, hc1⟩]; try rfl
      · omega
    | succ m ih =>
      intro y hn h0 h1
      refine x_iload_n (pc := 31) hC dX12_show_31 rfl ?_
      refine x_aload_n (pc := 32) hC dX12_show_32 rfl ?_
      refine x_getO (pc := 33) hC gf_X12_25 dX12_show_33 M.1 (mo_size M).1 ?_
      refine x_iload_n (pc := 36) hC dX12_show_36 rfl ?_
      refine x_iald (pc := 37) hC dX12_show_37 (mo_size M).2.1 (by omega) (by rw [(mo_size M).2.2]; omega) ?_
      rw [e6]
      refine x_icmp_ge (pc := 38) hC 69 dX12_show_38 (by decide) (by omega) (by omega) (fun b38 => ?_) (fun b38 => ?_)
      · refine x_aload_n (pc := 69) hC dX12_show_69 rfl ?_
        refine x_getO (pc := 70) hC gf_X12_25 dX12_show_70 M.1 (mo_size M).1 ?_
        refine x_iload_n (pc := 73) hC dX12_show_73 rfl ?_
        refine x_iald (pc := 74) hC dX12_show_74 (mo_size M).2.1 (by omega) (by rw [(mo_size M).2.2]; omega) ?_
        rw [e6]
        refine x_iret (pc := 75) hC rfl dX12_show_75 ?_
        have hy : y = I (o + 6) c := by omega
        subst hy
        refine ⟨?_, rfl, rfl, ?_, rfl, rfl⟩
        · unfold sh; rw [if_pos ⟨hs1, hc1⟩]; try rfl
        · unfold sh; rw [if_pos ⟨hs1, hc1⟩]; try rfl
      · refine x_aload_n (pc := 41) hC dX12_show_41 rfl ?_
        refine x_getO (pc := 42) hC gf_X12_106 dX12_show_42 M.1 (mo_cells M).1 ?_
        refine x_bipush (pc := 45) hC dX12_show_45 (by decide) ?_
        refine x_iload_n (pc := 47) hC dX12_show_47 rfl ?_
        refine x_imul (pc := 48) hC dX12_show_48 ?_
        refine x_iload_n (pc := 49) hC dX12_show_49 rfl ?_
        refine x_iadd (pc := 50) hC dX12_show_50 ?_
        refine x_aload_n (pc := 51) hC dX12_show_51 rfl ?_
        refine x_getO (pc := 52) hC gf_X12_22 dX12_show_52 M.1 (mo_line M).1 ?_
        refine x_bipush (pc := 55) hC dX12_show_55 (by decide) ?_
        refine x_iload_n (pc := 57) hC dX12_show_57 rfl ?_
        refine x_imul (pc := 58) hC dX12_show_58 ?_
        refine x_iload_n (pc := 59) hC dX12_show_59 rfl ?_
        refine x_iadd (pc := 60) hC dX12_show_60 ?_
        refine x_iald (pc := 61) hC dX12_show_61 (mo_line M).2.1 (by omega) (by rw [(mo_line M).2.2]; omega) ?_
        rw [e5]
        refine x_iast (pc := 62) hC dX12_show_62 (mo_cells M).2.1 (by omega) (by rw [(mo_cells M).2.2]; omega) ?_
        refine x_iinc (pc := 63) hC dX12_show_63 rfl ?_
        dsimp only [List.set]
        refine x_goto (pc := 66) hC 31 dX12_show_66 (by decide) ?_
        rw [axf_step h0 rfl (by congr 1; omega)]
        exact ih (y + 1) (by omega) (by omega) (by omega)
  have hz := hl.2 c
  refine x_iload_n (pc := 0) hC dX12_show_0 rfl ?_
  refine x_mS (pc := 1) hC cs_X12_186 dX12_show_1 (m_isSlot hs) rfl (by decide) rfl rfl (Nat.le_of_ble_eq_true rfl) ?_
  refine x_ifB_eq (pc := 4) hC 15 dX12_show_4 (by decide) (fun b4 => ?_) (fun b4 => ?_)
  · refine x_iconst (pc := 15) hC dX12_show_15 ?_
    refine x_iret (pc := 16) hC rfl dX12_show_16 ?_
    refine ⟨?_, rfl, rfl, ?_, rfl, rfl⟩
    · unfold sh; rw [if_neg (by omega)]; try rfl
    · unfold sh; rw [if_neg (by omega)]; try rfl
  · refine x_aload_n (pc := 7) hC dX12_show_7 rfl ?_
    refine x_iload_n (pc := 8) hC dX12_show_8 rfl ?_
    refine x_mV (pc := 9) hC cv_X12_171 dX12_show_9 (m_isCommit M hc (by omega)) M.1 rfl (by decide) rfl rfl (Nat.le_of_ble_eq_true rfl) ?_
    refine x_ifB_ne (pc := 12) hC 17 dX12_show_12 (by decide) (fun b12 => ?_) (fun b12 => ?_)
    · refine x_aload_n (pc := 17) hC dX12_show_17 rfl ?_
      refine x_iload_n (pc := 18) hC dX12_show_18 rfl ?_
      refine x_iconst (pc := 19) hC dX12_show_19 ?_
      refine x_aload_n (pc := 20) hC dX12_show_20 rfl ?_
      refine x_getO (pc := 21) hC gf_X12_25 dX12_show_21 M.1 (mo_size M).1 ?_
      refine x_iload_n (pc := 24) hC dX12_show_24 rfl ?_
      refine x_iald (pc := 25) hC dX12_show_25 (mo_size M).2.1 (by omega) (by rw [(mo_size M).2.2]; omega) ?_
      refine x_mV (pc := 26) hC cv_X12_328 dX12_show_26 (m_clears M b4) M.1 rfl (by decide) rfl rfl (Nat.le_of_ble_eq_true rfl) ?_
      refine x_iconst (pc := 29) hC dX12_show_29 ?_
      refine x_istore_n (pc := 30) hC dX12_show_30 (Nat.le_of_ble_eq_true rfl) ?_
      dsimp only [List.set]
      have := loop b4 b12 _ 0 (Nat.le_refl _) (by omega) (by omega)
      rw [axf_0] at this
      exact this
    · refine x_iconst (pc := 15) hC dX12_show_15 ?_
      refine x_iret (pc := 16) hC rfl dX12_show_16 ?_
      refine ⟨?_, rfl, rfl, ?_, rfl, rfl⟩
      · unfold sh; rw [if_neg (by omega)]; try rfl
      · unfold sh; rw [if_neg (by omega)]; try rfl

set_option maxHeartbeats 4000000 in
set_option maxRecDepth 100000 in
theorem m_trail {G : ax_G} {T : Nat → Nat} {N : Nat → Int} {I : Nat → Int → Int} {R : Nat → Int → Option Nat} {z o : Nat} (M : axMo T N R o) {s c : Int} (hm : miC I o) (hs : ax_r s) (hc : ax_r c) : axE G YX12_trail 2 [vR o, vI s, vI c] T N I R z (some (vI (tl I o s c).1)) (tl I o s c).2 := by

  refine ax_enter (by decide) (Nat.le_of_ble_eq_true rfl) (ax_cat rfl) (fun f hC => ?_)
  show axX G f 0 0 _ 0 [vR o, vI s, vI c, vU, vU] [] T N I R z 0 0
  have hmm := hm.1
  have hp := hm.2.2.1
  have loop : (0 ≤ s ∧ s < 5) → (0 ≤ c ∧ c < (I o 2)) → ∀ (m : Nat) (y : Int), (c + 1 - y).toNat ≤ m → 0 ≤ y → y ≤ c + 1 → axX G f 0 0 (fun r1 T1 N1 I1 R1 z1 => r1 = some (vI (tl I o s c).1) ∧ T1 = T ∧ N1 = N ∧ I1 = (tl I o s c).2 ∧ R1 = R ∧ z1 = z) 33 [vR o, vI s, vI c, vI (((seg id 0 y).filter (fun x => decide (x ∈ path (I (o + 2)) c))).length : Int), vI y] [] T N (ax_f (clI I o s 1 ((path (I (o + 2)) c).length : Int)) (o + 33) (24 * s) ((seg id 0 y).filter (fun x => decide (x ∈ path (I (o + 2)) c))).length (fun j => lf ((seg id 0 y).filter (fun x => decide (x ∈ path (I (o + 2)) c))) (j - 24 * s))) R z 0 0 := by
    intro hs1 hc1 m
    have hrev := path_rev hp _ c (Nat.le_refl _) hc1.1 hc1.2 (c + 1) (by omega)
    have hrl := congrArg List.length hrev
    rw [List.length_reverse] at hrl
    induction m with
    | zero =>
      intro y hn h0 h1
      refine x_iload (pc := 33) hC dX12_trail_33 rfl ?_
      refine x_iload_n (pc := 35) hC dX12_trail_35 rfl ?_
      refine x_icmp_gt (pc := 36) hC 71 dX12_trail_36 (by decide) (by omega) (by omega) (fun b36 => ?_) (fun b36 => ?_)
      · refine x_iload_n (pc := 71) hC dX12_trail_71 rfl ?_
        refine x_iret (pc := 72) hC rfl dX12_trail_72 ?_
        have hy : y = c + 1 := by omega
        subst hy
        rw [hrev] at *
        refine ⟨?_, rfl, rfl, ?_, rfl, rfl⟩
        · unfold tl; rw [if_pos ⟨hs1, hc1⟩, List.length_reverse]
        · unfold tl; rw [if_pos ⟨hs1, hc1⟩, List.length_reverse]
      · omega
    | succ m ih =>
      intro y hn h0 h1
      have hsn := seg_snoc (f := id) h0
      have hih := fun h => ih (y + 1) (by omega) (by omega) h
      rw [hsn, List.filter_append] at hih
      have hFl : ((seg id 0 y).filter (fun x => decide (x ∈ path (I (o + 2)) c))).length ≤ y := by
        have := List.length_filter_le (fun x => decide (x ∈ path (I (o + 2)) c)) (seg id 0 y)
        rw [seg_len] at this
        omega
      obtain ⟨F, hF⟩ : ∃ F, F = ((seg id 0 y).filter (fun x => decide (x ∈ path (I (o + 2)) c))) := ⟨_, rfl⟩
      rw [← hF] at hih hFl ⊢
      have eR : ∀ q, q < o + 31 → (ax_f (clI I o s 1 ((path (I (o + 2)) c).length : Int)) (o + 33) (24 * s) F.length (fun j => lf F (j - 24 * s))) q = I q := fun q a => by unfold clI; rw [axf_row (by omega), axf_row (by omega), axu_row (by omega), axu_row (by omega)]
      have hpJ : PW ((ax_f (clI I o s 1 ((path (I (o + 2)) c).length : Int)) (o + 33) (24 * s) F.length (fun j => lf F (j - 24 * s))) (o + 2)) (I o 2) := by rw [eR _ (by omega)]; exact hp
      refine x_iload (pc := 33) hC dX12_trail_33 rfl ?_
      refine x_iload_n (pc := 35) hC dX12_trail_35 rfl ?_
      refine x_icmp_gt (pc := 36) hC 71 dX12_trail_36 (by decide) (by omega) (by omega) (fun b36 => ?_) (fun b36 => ?_)
      · refine x_iload_n (pc := 71) hC dX12_trail_71 rfl ?_
        refine x_iret (pc := 72) hC rfl dX12_trail_72 ?_
        rw [hF]
        have hy : y = c + 1 := by omega
        subst hy
        rw [hrev] at *
        refine ⟨?_, rfl, rfl, ?_, rfl, rfl⟩
        · unfold tl; rw [if_pos ⟨hs1, hc1⟩, List.length_reverse]
        · unfold tl; rw [if_pos ⟨hs1, hc1⟩, List.length_reverse]
      · refine x_aload_n (pc := 39) hC dX12_trail_39 rfl ?_
        refine x_iload (pc := 40) hC dX12_trail_40 rfl ?_
        refine x_iload_n (pc := 42) hC dX12_trail_42 rfl ?_
        refine x_mV (pc := 43) hC cv_X12_201 dX12_trail_43 (m_isOn M hmm.2 hpJ h0 (by omega) hc1.1 hc1.2) M.1 rfl (by decide) rfl rfl (Nat.le_of_ble_eq_true rfl) ?_
        rw [eR (o + 2) (by omega)]
        refine x_ifB_eq (pc := 46) hC 65 dX12_trail_46 (by decide) (fun b46 => ?_) (fun b46 => ?_)
        · refine x_iinc (pc := 65) hC dX12_trail_65 rfl ?_
          dsimp only [List.set]
          refine x_goto (pc := 68) hC 33 dX12_trail_68 (by decide) ?_
          first
          | (have hh := hih (by omega)
             rw [show [id y].filter (fun x => decide (x ∈ path (I (o + 2)) c)) = [y] by simp [b46]] at hh
             rw [show ((F ++ [y]).length : Int) = F.length + 1 by simp] at hh
             rw [← axf_step (j := 24 * s + F.length) (v := y) (by omega) rfl (by rw [show 24 * s + (F.length : Int) - 24 * s = F.length by omega]; exact lf_last.symm), axf_g (g := fun j => lf (F ++ [y]) (j - 24 * s)) (g' := fun j => lf F (j - 24 * s)) (fun i a1 a2 => lf_app (by omega) (by omega))] at hh
             exact hh)
          | (have hq : [id y].filter (fun x => decide (x ∈ path (I (o + 2)) c)) = [] := by simp [b46]
             have hh := hih (by omega)
             rw [hq, List.append_nil] at hh
             exact hh)
        · refine x_aload_n (pc := 49) hC dX12_trail_49 rfl ?_
          refine x_getO (pc := 50) hC gf_X12_106 dX12_trail_50 M.1 (mo_cells M).1 ?_
          refine x_bipush (pc := 53) hC dX12_trail_53 (by decide) ?_
          refine x_iload_n (pc := 55) hC dX12_trail_55 rfl ?_
          refine x_imul (pc := 56) hC dX12_trail_56 ?_
          refine x_iload_n (pc := 57) hC dX12_trail_57 rfl ?_
          refine x_iadd (pc := 58) hC dX12_trail_58 ?_
          refine x_iload (pc := 59) hC dX12_trail_59 rfl ?_
          refine x_iast (pc := 61) hC dX12_trail_61 (mo_cells M).2.1 (by omega) (by rw [(mo_cells M).2.2]; omega) ?_
          refine x_iinc (pc := 62) hC dX12_trail_62 rfl ?_
          dsimp only [List.set]
          refine x_iinc (pc := 65) hC dX12_trail_65 rfl ?_
          dsimp only [List.set]
          refine x_goto (pc := 68) hC 33 dX12_trail_68 (by decide) ?_
          first
          | (have hh := hih (by omega)
             rw [show [id y].filter (fun x => decide (x ∈ path (I (o + 2)) c)) = [y] by simp [b46]] at hh
             rw [show ((F ++ [y]).length : Int) = F.length + 1 by simp] at hh
             rw [← axf_step (j := 24 * s + F.length) (v := y) (by omega) rfl (by rw [show 24 * s + (F.length : Int) - 24 * s = F.length by omega]; exact lf_last.symm), axf_g (g := fun j => lf (F ++ [y]) (j - 24 * s)) (g' := fun j => lf F (j - 24 * s)) (fun i a1 a2 => lf_app (by omega) (by omega))] at hh
             exact hh)
          | (have hq : [id y].filter (fun x => decide (x ∈ path (I (o + 2)) c)) = [] := by simp [b46]
             have hh := hih (by omega)
             rw [hq, List.append_nil] at hh
             exact hh)
  refine x_iload_n (pc := 0) hC dX12_trail_0 rfl ?_
  refine x_mS (pc := 1) hC cs_X12_186 dX12_trail_1 (m_isSlot hs) rfl (by decide) rfl rfl (Nat.le_of_ble_eq_true rfl) ?_
  refine x_ifB_eq (pc := 4) hC 15 dX12_trail_4 (by decide) (fun b4 => ?_) (fun b4 => ?_)
  · refine x_iconst (pc := 15) hC dX12_trail_15 ?_
    refine x_iret (pc := 16) hC rfl dX12_trail_16 ?_
    refine ⟨?_, rfl, rfl, ?_, rfl, rfl⟩
    · unfold tl; rw [if_neg (by omega)]; try rfl
    · unfold tl; rw [if_neg (by omega)]; try rfl
  · refine x_aload_n (pc := 7) hC dX12_trail_7 rfl ?_
    refine x_iload_n (pc := 8) hC dX12_trail_8 rfl ?_
    refine x_mV (pc := 9) hC cv_X12_171 dX12_trail_9 (m_isCommit M hc (by omega)) M.1 rfl (by decide) rfl rfl (Nat.le_of_ble_eq_true rfl) ?_
    refine x_ifB_ne (pc := 12) hC 17 dX12_trail_12 (by decide) (fun b12 => ?_) (fun b12 => ?_)
    · refine x_aload_n (pc := 17) hC dX12_trail_17 rfl ?_
      refine x_iload_n (pc := 18) hC dX12_trail_18 rfl ?_
      refine x_iconst (pc := 19) hC dX12_trail_19 ?_
      refine x_aload_n (pc := 20) hC dX12_trail_20 rfl ?_
      refine x_iload_n (pc := 21) hC dX12_trail_21 rfl ?_
      refine x_mV (pc := 22) hC cv_X12_198 dX12_trail_22 (m_far M hmm.2 hp b12.1 b12.2) M.1 rfl (by decide) rfl rfl (Nat.le_of_ble_eq_true rfl) ?_
      refine x_mV (pc := 25) hC cv_X12_328 dX12_trail_25 (m_clears M b4) M.1 rfl (by decide) rfl rfl (Nat.le_of_ble_eq_true rfl) ?_
      refine x_iconst (pc := 28) hC dX12_trail_28 ?_
      refine x_istore_n (pc := 29) hC dX12_trail_29 (Nat.le_of_ble_eq_true rfl) ?_
      dsimp only [List.set]
      refine x_iconst (pc := 30) hC dX12_trail_30 ?_
      refine x_istore (pc := 31) hC dX12_trail_31 (Nat.le_of_ble_eq_true rfl) ?_
      dsimp only [List.set]
      have := loop b4 b12 _ 0 (Nat.le_refl _) (by omega) (by omega)
      rw [seg_nil (Int.le_refl _), List.filter_nil] at this
      change axX _ _ _ _ _ _ _ _ _ _ (ax_f _ _ _ 0 _) _ _ _ _ at this
      rw [axf_0] at this
      exact this
    · refine x_iconst (pc := 15) hC dX12_trail_15 ?_
      refine x_iret (pc := 16) hC rfl dX12_trail_16 ?_
      refine ⟨?_, rfl, rfl, ?_, rfl, rfl⟩
      · unfold tl; rw [if_neg (by omega)]; try rfl
      · unfold tl; rw [if_neg (by omega)]; try rfl

set_option maxHeartbeats 4000000 in
set_option maxRecDepth 100000 in
theorem m_hold {G : ax_G} {T : Nat → Nat} {N : Nat → Int} {I : Nat → Int → Int} {R : Nat → Int → Option Nat} {z o : Nat} (M : axMo T N R o) {s c : Int} (hm : 1 ≤ (I o 2) ∧ (I o 2) ≤ 24) (hs : ax_r s) (hc : ax_r c) : axE G YX12_hold 2 [vR o, vI s, vI c] T N I R z (some (vI (hd I o s c).1)) (hd I o s c).2 := by

  refine ax_enter (by decide) (Nat.le_of_ble_eq_true rfl) (ax_cat rfl) (fun f hC => ?_)
  show axX G f 0 0 _ 0 [vR o, vI s, vI c] [] T N I R z 0 0
  have e1 : clI I o s 2 0 (o + 1) c = I (o + 1) c := by unfold clI; rw [axf_a (by omega), axu_a (by omega), axu_a (by omega)]
  have e4 : clI I o s 2 0 (o + 4) c = I (o + 4) c := by unfold clI; rw [axf_a (by omega), axu_a (by omega), axu_a (by omega)]
  refine x_iload_n (pc := 0) hC dX12_hold_0 rfl ?_
  refine x_mS (pc := 1) hC cs_X12_186 dX12_hold_1 (m_isSlot hs) rfl (by decide) rfl rfl (Nat.le_of_ble_eq_true rfl) ?_
  refine x_ifB_eq (pc := 4) hC 15 dX12_hold_4 (by decide) (fun b4 => ?_) (fun b4 => ?_)
  · refine x_iconst (pc := 15) hC dX12_hold_15 ?_
    refine x_iret (pc := 16) hC rfl dX12_hold_16 ?_
    refine ⟨?_, rfl, rfl, ?_, rfl, rfl⟩
    · unfold hd; rw [if_neg (by omega)]; try rfl
    · unfold hd; rw [if_neg (by omega)]; try rfl
  · refine x_aload_n (pc := 7) hC dX12_hold_7 rfl ?_
    refine x_iload_n (pc := 8) hC dX12_hold_8 rfl ?_
    refine x_mV (pc := 9) hC cv_X12_171 dX12_hold_9 (m_isCommit M hc (by omega)) M.1 rfl (by decide) rfl rfl (Nat.le_of_ble_eq_true rfl) ?_
    refine x_ifB_ne (pc := 12) hC 17 dX12_hold_12 (by decide) (fun b12 => ?_) (fun b12 => ?_)
    · refine x_aload_n (pc := 17) hC dX12_hold_17 rfl ?_
      refine x_iload_n (pc := 18) hC dX12_hold_18 rfl ?_
      refine x_iconst (pc := 19) hC dX12_hold_19 ?_
      refine x_iconst (pc := 20) hC dX12_hold_20 ?_
      refine x_mV (pc := 21) hC cv_X12_328 dX12_hold_21 (m_clears M b4) M.1 rfl (by decide) rfl rfl (Nat.le_of_ble_eq_true rfl) ?_
      refine x_aload_n (pc := 24) hC dX12_hold_24 rfl ?_
      refine x_getO (pc := 25) hC gf_X12_109 dX12_hold_25 M.1 (mo_heldNumber M).1 ?_
      refine x_iload_n (pc := 28) hC dX12_hold_28 rfl ?_
      refine x_iload_n (pc := 29) hC dX12_hold_29 rfl ?_
      refine x_iast (pc := 30) hC dX12_hold_30 (mo_heldNumber M).2.1 (by omega) (by rw [(mo_heldNumber M).2.2]; omega) ?_
      refine x_aload_n (pc := 31) hC dX12_hold_31 rfl ?_
      refine x_getO (pc := 32) hC gf_X12_112 dX12_hold_32 M.1 (mo_heldKind M).1 ?_
      refine x_iload_n (pc := 35) hC dX12_hold_35 rfl ?_
      refine x_aload_n (pc := 36) hC dX12_hold_36 rfl ?_
      refine x_getO (pc := 37) hC gf_X12_7 dX12_hold_37 M.1 (mo_kind M).1 ?_
      refine x_iload_n (pc := 40) hC dX12_hold_40 rfl ?_
      refine x_iald (pc := 41) hC dX12_hold_41 (mo_kind M).2.1 (by omega) (by rw [(mo_kind M).2.2]; omega) ?_
      refine x_iast (pc := 42) hC dX12_hold_42 (mo_heldKind M).2.1 (by omega) (by rw [(mo_heldKind M).2.2]; omega) ?_
      refine x_aload_n (pc := 43) hC dX12_hold_43 rfl ?_
      refine x_getO (pc := 44) hC gf_X12_115 dX12_hold_44 M.1 (mo_heldSerial M).1 ?_
      refine x_iload_n (pc := 47) hC dX12_hold_47 rfl ?_
      refine x_aload_n (pc := 48) hC dX12_hold_48 rfl ?_
      refine x_getO (pc := 49) hC gf_X12_19 dX12_hold_49 M.1 (mo_serial M).1 ?_
      refine x_iload_n (pc := 52) hC dX12_hold_52 rfl ?_
      refine x_iald (pc := 53) hC dX12_hold_53 (mo_serial M).2.1 (by omega) (by rw [(mo_serial M).2.2]; omega) ?_
      refine x_iast (pc := 54) hC dX12_hold_54 (mo_heldSerial M).2.1 (by omega) (by rw [(mo_heldSerial M).2.2]; omega) ?_
      refine x_iconst (pc := 55) hC dX12_hold_55 ?_
      refine x_iret (pc := 56) hC rfl dX12_hold_56 ?_
      rw [axu_a (show o + 1 ≠ o + 34 by omega), e1, axu_a (show o + 4 ≠ o + 35 by omega), axu_a (show o + 4 ≠ o + 34 by omega), e4]
      refine ⟨?_, rfl, rfl, ?_, rfl, rfl⟩
      · unfold hd; rw [if_pos ⟨b4, b12⟩]; try rfl
      · unfold hd; rw [if_pos ⟨b4, b12⟩]; try rfl
    · refine x_iconst (pc := 15) hC dX12_hold_15 ?_
      refine x_iret (pc := 16) hC rfl dX12_hold_16 ?_
      refine ⟨?_, rfl, rfl, ?_, rfl, rfl⟩
      · unfold hd; rw [if_neg (by omega)]; try rfl
      · unfold hd; rw [if_neg (by omega)]; try rfl

set_option maxHeartbeats 4000000 in
set_option maxRecDepth 100000 in
theorem m_held {G : ax_G} {T : Nat → Nat} {N : Nat → Int} {I : Nat → Int → Int} {R : Nat → Int → Option Nat} {z o : Nat} (M : axMo T N R o) {s : Int} (hm : 1 ≤ (I o 2) ∧ (I o 2) ≤ 24) (hS : miS I o) (hser : (I o 3) ≤ 2000000) (hs : ax_r s) : axE G YX12_held 2 [vR o, vI s] T N I R z (some (vI (he I o s).1)) (he I o s).2 := by

  refine ax_enter (by decide) (Nat.le_of_ble_eq_true rfl) (ax_cat rfl) (fun f hC => ?_)
  show axX G f 0 0 _ 0 [vR o, vI s, vU] [] T N I R z 0 0
  have h31 := hS.1 s
  have h34 := hS.2.2.2.1 s
  have h36 := hS.2.2.2.2.2.1 s
  have h4 := hS.2.2.2.2.2.2 (I (o + 34) s)
  have e2 : (ax_u I o 0 0) o 2 = I o 2 := axu_j (by decide)
  have eR : ∀ q, q ≠ o → (ax_u I o 0 0) q = I q := fun q h => axu_row h
  refine x_iload_n (pc := 0) hC dX12_held_0 rfl ?_
  refine x_mS (pc := 1) hC cs_X12_186 dX12_held_1 (m_isSlot hs) rfl (by decide) rfl rfl (Nat.le_of_ble_eq_true rfl) ?_
  refine x_ifB_ne (pc := 4) hC 13 dX12_held_4 (by decide) (fun b4 => ?_) (fun b4 => ?_)
  · refine x_aload_n (pc := 13) hC dX12_held_13 rfl ?_
    refine x_getO (pc := 14) hC gf_X12_100 dX12_held_14 M.1 (mo_slotSort M).1 ?_
    refine x_iload_n (pc := 17) hC dX12_held_17 rfl ?_
    refine x_iald (pc := 18) hC dX12_held_18 (mo_slotSort M).2.1 (by omega) (by rw [(mo_slotSort M).2.2]; omega) ?_
    refine x_if_eq (pc := 19) hC 32 dX12_held_19 (by decide) (by omega) (fun b19 => ?_) (fun b19 => ?_)
    · refine x_aload_n (pc := 32) hC dX12_held_32 rfl ?_
      refine x_iconst (pc := 33) hC dX12_held_33 ?_
      refine x_mV (pc := 34) hC cv_X12_192 dX12_held_34 (m_fails M) M.1 rfl (by decide) rfl rfl (Nat.le_of_ble_eq_true rfl) ?_
      refine x_iret (pc := 37) hC rfl dX12_held_37 ?_
      refine ⟨?_, rfl, rfl, ?_, rfl, rfl⟩
      · unfold he; rw [if_pos b4, if_pos (by omega)]; try rfl
      · unfold he; rw [if_pos b4, if_pos (by omega)]; try rfl
    · refine x_aload_n (pc := 22) hC dX12_held_22 rfl ?_
      refine x_getO (pc := 23) hC gf_X12_100 dX12_held_23 M.1 (mo_slotSort M).1 ?_
      refine x_iload_n (pc := 26) hC dX12_held_26 rfl ?_
      refine x_iald (pc := 27) hC dX12_held_27 (mo_slotSort M).2.1 (by omega) (by rw [(mo_slotSort M).2.2]; omega) ?_
      refine x_iconst (pc := 28) hC dX12_held_28 ?_
      refine x_icmp_ne (pc := 29) hC 38 dX12_held_29 (by decide) (by omega) (by omega) (fun b29 => ?_) (fun b29 => ?_)
      · refine x_aload_n (pc := 38) hC dX12_held_38 rfl ?_
        refine x_getO (pc := 39) hC gf_X12_100 dX12_held_39 M.1 (mo_slotSort M).1 ?_
        refine x_iload_n (pc := 42) hC dX12_held_42 rfl ?_
        refine x_iald (pc := 43) hC dX12_held_43 (mo_slotSort M).2.1 (by omega) (by rw [(mo_slotSort M).2.2]; omega) ?_
        refine x_bipush (pc := 44) hC dX12_held_44 (by decide) ?_
        refine x_icmp_ne (pc := 46) hC 55 dX12_held_46 (by decide) (by omega) (by omega) (fun b46 => ?_) (fun b46 => ?_)
        · refine x_aload_n (pc := 55) hC dX12_held_55 rfl ?_
          refine x_iconst (pc := 56) hC dX12_held_56 ?_
          refine x_putI (pc := 57) hC pf_X12_122 dX12_held_57 M.1 (by decide) ?_
          refine x_aload_n (pc := 60) hC dX12_held_60 rfl ?_
          refine x_getO (pc := 61) hC gf_X12_109 dX12_held_61 M.1 (mo_heldNumber M).1 ?_
          refine x_iload_n (pc := 64) hC dX12_held_64 rfl ?_
          refine x_iald (pc := 65) hC dX12_held_65 (mo_heldNumber M).2.1 (by omega) (by rw [(mo_heldNumber M).2.2]; omega) ?_
          rw [eR (o + 34) (by omega)]
          refine x_istore_n (pc := 66) hC dX12_held_66 (Nat.le_of_ble_eq_true rfl) ?_
          dsimp only [List.set]
          refine x_iload_n (pc := 67) hC dX12_held_67 rfl ?_
          refine x_aload_n (pc := 68) hC dX12_held_68 rfl ?_
          refine x_getI (pc := 69) hC gf_X12_129 dX12_held_69 M.1 ?_
          rw [e2]
          refine x_icmp_ge (pc := 72) hC 94 dX12_held_72 (by decide) (by omega) (by omega) (fun b72 => ?_) (fun b72 => ?_)
          · refine x_bipush (pc := 94) hC dX12_held_94 (by decide) ?_
            refine x_iret (pc := 96) hC rfl dX12_held_96 ?_
            refine ⟨?_, rfl, rfl, ?_, rfl, rfl⟩
            · unfold he; rw [if_pos b4, if_neg (by omega), if_neg (by assumption)]
              first
              | (rw [if_pos ⟨by omega, by assumption⟩]; done)
              | (rw [if_neg (fun h => by first | omega | exact absurd h.2 (by assumption))]; done)
            · unfold he; rw [if_pos b4, if_neg (by omega), if_neg (by assumption)]
          · refine x_aload_n (pc := 75) hC dX12_held_75 rfl ?_
            refine x_getO (pc := 76) hC gf_X12_19 dX12_held_76 M.1 (mo_serial M).1 ?_
            refine x_iload_n (pc := 79) hC dX12_held_79 rfl ?_
            refine x_iald (pc := 80) hC dX12_held_80 (mo_serial M).2.1 (by omega) (by rw [(mo_serial M).2.2]; omega) ?_
            refine x_aload_n (pc := 81) hC dX12_held_81 rfl ?_
            refine x_getO (pc := 82) hC gf_X12_115 dX12_held_82 M.1 (mo_heldSerial M).1 ?_
            refine x_iload_n (pc := 85) hC dX12_held_85 rfl ?_
            refine x_iald (pc := 86) hC dX12_held_86 (mo_heldSerial M).2.1 (by omega) (by rw [(mo_heldSerial M).2.2]; omega) ?_
            rw [eR (o + 4) (by omega), eR (o + 36) (by omega)]
            refine x_icmp_ne (pc := 87) hC 94 dX12_held_87 (by decide) (by omega) (by omega) (fun b87 => ?_) (fun b87 => ?_)
            · refine x_bipush (pc := 94) hC dX12_held_94 (by decide) ?_
              refine x_iret (pc := 96) hC rfl dX12_held_96 ?_
              refine ⟨?_, rfl, rfl, ?_, rfl, rfl⟩
              · unfold he; rw [if_pos b4, if_neg (by omega), if_neg (by assumption)]
                first
                | (rw [if_pos ⟨by omega, by assumption⟩]; done)
                | (rw [if_neg (fun h => by first | omega | exact absurd h.2 (by assumption))]; done)
              · unfold he; rw [if_pos b4, if_neg (by omega), if_neg (by assumption)]
            · refine x_iload_n (pc := 90) hC dX12_held_90 rfl ?_
              refine x_goto (pc := 91) hC 96 dX12_held_91 (by decide) ?_
              refine x_iret (pc := 96) hC rfl dX12_held_96 ?_
              refine ⟨?_, rfl, rfl, ?_, rfl, rfl⟩
              · unfold he; rw [if_pos b4, if_neg (by omega), if_neg (by assumption)]
                first
                | (rw [if_pos ⟨by omega, by assumption⟩]; done)
                | (rw [if_neg (fun h => by first | omega | exact absurd h.2 (by assumption))]; done)
              · unfold he; rw [if_pos b4, if_neg (by omega), if_neg (by assumption)]
        · refine x_aload_n (pc := 49) hC dX12_held_49 rfl ?_
          refine x_iconst (pc := 50) hC dX12_held_50 ?_
          refine x_mV (pc := 51) hC cv_X12_192 dX12_held_51 (m_fails M) M.1 rfl (by decide) rfl rfl (Nat.le_of_ble_eq_true rfl) ?_
          refine x_iret (pc := 54) hC rfl dX12_held_54 ?_
          refine ⟨?_, rfl, rfl, ?_, rfl, rfl⟩
          · unfold he; rw [if_pos b4, if_neg (by omega), if_pos (by assumption)]; try rfl
          · unfold he; rw [if_pos b4, if_neg (by omega), if_pos (by assumption)]; try rfl
      · refine x_aload_n (pc := 32) hC dX12_held_32 rfl ?_
        refine x_iconst (pc := 33) hC dX12_held_33 ?_
        refine x_mV (pc := 34) hC cv_X12_192 dX12_held_34 (m_fails M) M.1 rfl (by decide) rfl rfl (Nat.le_of_ble_eq_true rfl) ?_
        refine x_iret (pc := 37) hC rfl dX12_held_37 ?_
        refine ⟨?_, rfl, rfl, ?_, rfl, rfl⟩
        · unfold he; rw [if_pos b4, if_pos (by omega)]; try rfl
        · unfold he; rw [if_pos b4, if_pos (by omega)]; try rfl
  · refine x_aload_n (pc := 7) hC dX12_held_7 rfl ?_
    refine x_iconst (pc := 8) hC dX12_held_8 ?_
    refine x_mV (pc := 9) hC cv_X12_325 dX12_held_9 (m_refused M) M.1 rfl (by decide) rfl rfl (Nat.le_of_ble_eq_true rfl) ?_
    refine x_iret (pc := 12) hC rfl dX12_held_12 ?_
    refine ⟨?_, rfl, rfl, ?_, rfl, rfl⟩
    · unfold he; rw [if_neg b4]; try rfl
    · unfold he; rw [if_neg b4]; try rfl

set_option maxHeartbeats 4000000 in
set_option maxRecDepth 100000 in
theorem m_as {G : ax_G} {T : Nat → Nat} {N : Nat → Int} {I : Nat → Int → Int} {R : Nat → Int → Option Nat} {z o : Nat} (M : axMo T N R o) {s w : Int} (hS : miS I o) (hs : ax_r s) (hw : ax_r w) : axE G YX12_as 2 [vR o, vI s, vI w] T N I R z (some (vI (asR I o s w).1)) (asR I o s w).2 := by

  refine ax_enter (by decide) (Nat.le_of_ble_eq_true rfl) (ax_cat rfl) (fun f hC => ?_)
  show axX G f 0 0 _ 0 [vR o, vI s, vI w, vU] [] T N I R z 0 0
  have h31 := hS.1 s
  have h35 := hS.2.2.2.2.1 s
  refine x_iload_n (pc := 0) hC dX12_as_0 rfl ?_
  refine x_mS (pc := 1) hC cs_X12_186 dX12_as_1 (m_isSlot hs) rfl (by decide) rfl rfl (Nat.le_of_ble_eq_true rfl) ?_
  refine x_ifB_ne (pc := 4) hC 13 dX12_as_4 (by decide) (fun b4 => ?_) (fun b4 => ?_)
  · refine x_iload_n (pc := 13) hC dX12_as_13 rfl ?_
    refine x_iconst (pc := 14) hC dX12_as_14 ?_
    refine x_iconst (pc := 15) hC dX12_as_15 ?_
    refine x_mS (pc := 16) hC cs_X12_139 dX12_as_16 (m_within hw (by decide) (by decide)) rfl (by decide) rfl rfl (Nat.le_of_ble_eq_true rfl) ?_
    refine x_ifB_ne (pc := 19) hC 29 dX12_as_19 (by decide) (fun b19 => ?_) (fun b19 => ?_)
    · refine x_aload_n (pc := 29) hC dX12_as_29 rfl ?_
      refine x_getO (pc := 30) hC gf_X12_100 dX12_as_30 M.1 (mo_slotSort M).1 ?_
      refine x_iload_n (pc := 33) hC dX12_as_33 rfl ?_
      refine x_iald (pc := 34) hC dX12_as_34 (mo_slotSort M).2.1 (by omega) (by rw [(mo_slotSort M).2.2]; omega) ?_
      refine x_bipush (pc := 35) hC dX12_as_35 (by decide) ?_
      refine x_icmp_ne (pc := 37) hC 46 dX12_as_37 (by decide) (by omega) (by omega) (fun b37 => ?_) (fun b37 => ?_)
      · refine x_iload_n (pc := 46) hC dX12_as_46 rfl ?_
        refine x_iconst (pc := 47) hC dX12_as_47 ?_
        refine x_icmp_ge (pc := 48) hC 69 dX12_as_48 (by decide) (by omega) (by omega) (fun b48 => ?_) (fun b48 => ?_)
        · refine x_aload_n (pc := 69) hC dX12_as_69 rfl ?_
          refine x_getO (pc := 70) hC gf_X12_100 dX12_as_70 M.1 (mo_slotSort M).1 ?_
          refine x_iload_n (pc := 73) hC dX12_as_73 rfl ?_
          refine x_iald (pc := 74) hC dX12_as_74 (mo_slotSort M).2.1 (by omega) (by rw [(mo_slotSort M).2.2]; omega) ?_
          refine x_iconst (pc := 75) hC dX12_as_75 ?_
          refine x_icmp_ne (pc := 76) hC 95 dX12_as_76 (by decide) (by omega) (by omega) (fun b76 => ?_) (fun b76 => ?_)
          · refine x_iconst (pc := 95) hC dX12_as_95 ?_
            refine x_istore_n (pc := 96) hC dX12_as_96 (Nat.le_of_ble_eq_true rfl) ?_
            dsimp only [List.set]
            refine x_iload_n (pc := 97) hC dX12_as_97 rfl ?_
            refine x_if_eq (pc := 98) hC 109 dX12_as_98 (by decide) (by omega) (fun b98 => ?_) (fun b98 => ?_)
            · refine x_aload_n (pc := 109) hC dX12_as_109 rfl ?_
              refine x_iconst (pc := 110) hC dX12_as_110 ?_
              refine x_mV (pc := 111) hC cv_X12_192 dX12_as_111 (m_fails M) M.1 rfl (by decide) rfl rfl (Nat.le_of_ble_eq_true rfl) ?_
              refine x_iret (pc := 114) hC rfl dX12_as_114 ?_
              have hcase : (asR I o s w) = if asP I o s w then (1, ax_u I o 0 0) else (-12, ax_u I o 0 2) := by
                unfold asR; rw [if_pos b4, if_pos b19, if_neg b37]
              rw [hcase]
              first
              | (have hno : ¬ asP I o s w := by unfold asP; split <;> omega
                 rw [if_neg hno]
                 exact ⟨rfl, rfl, rfl, rfl, rfl, rfl⟩)
              | (have hyes : asP I o s w := by unfold asP; split <;> omega
                 rw [if_pos hyes]
                 exact ⟨rfl, rfl, rfl, rfl, rfl, rfl⟩)
              | omega
            · refine x_aload_n (pc := 101) hC dX12_as_101 rfl ?_
              refine x_iconst (pc := 102) hC dX12_as_102 ?_
              refine x_mV (pc := 103) hC cv_X12_325 dX12_as_103 (m_refused M) M.1 rfl (by decide) rfl rfl (Nat.le_of_ble_eq_true rfl) ?_
              refine x_goto (pc := 106) hC 114 dX12_as_106 (by decide) ?_
              refine x_iret (pc := 114) hC rfl dX12_as_114 ?_
              have hcase : (asR I o s w) = if asP I o s w then (1, ax_u I o 0 0) else (-12, ax_u I o 0 2) := by
                unfold asR; rw [if_pos b4, if_pos b19, if_neg b37]
              rw [hcase]
              first
              | (have hno : ¬ asP I o s w := by unfold asP; split <;> omega
                 rw [if_neg hno]
                 exact ⟨rfl, rfl, rfl, rfl, rfl, rfl⟩)
              | (have hyes : asP I o s w := by unfold asP; split <;> omega
                 rw [if_pos hyes]
                 exact ⟨rfl, rfl, rfl, rfl, rfl, rfl⟩)
              | omega
          · refine x_aload_n (pc := 79) hC dX12_as_79 rfl ?_
            refine x_getO (pc := 80) hC gf_X12_112 dX12_as_80 M.1 (mo_heldKind M).1 ?_
            refine x_iload_n (pc := 83) hC dX12_as_83 rfl ?_
            refine x_iald (pc := 84) hC dX12_as_84 (mo_heldKind M).2.1 (by omega) (by rw [(mo_heldKind M).2.2]; omega) ?_
            refine x_iload_n (pc := 85) hC dX12_as_85 rfl ?_
            refine x_iconst (pc := 86) hC dX12_as_86 ?_
            refine x_isub (pc := 87) hC dX12_as_87 ?_
            refine x_icmp_lt (pc := 88) hC 95 dX12_as_88 (by decide) (by omega) (by omega) (fun b88 => ?_) (fun b88 => ?_)
            · refine x_iconst (pc := 95) hC dX12_as_95 ?_
              refine x_istore_n (pc := 96) hC dX12_as_96 (Nat.le_of_ble_eq_true rfl) ?_
              dsimp only [List.set]
              refine x_iload_n (pc := 97) hC dX12_as_97 rfl ?_
              refine x_if_eq (pc := 98) hC 109 dX12_as_98 (by decide) (by omega) (fun b98 => ?_) (fun b98 => ?_)
              · refine x_aload_n (pc := 109) hC dX12_as_109 rfl ?_
                refine x_iconst (pc := 110) hC dX12_as_110 ?_
                refine x_mV (pc := 111) hC cv_X12_192 dX12_as_111 (m_fails M) M.1 rfl (by decide) rfl rfl (Nat.le_of_ble_eq_true rfl) ?_
                refine x_iret (pc := 114) hC rfl dX12_as_114 ?_
                have hcase : (asR I o s w) = if asP I o s w then (1, ax_u I o 0 0) else (-12, ax_u I o 0 2) := by
                  unfold asR; rw [if_pos b4, if_pos b19, if_neg b37]
                rw [hcase]
                first
                | (have hno : ¬ asP I o s w := by unfold asP; split <;> omega
                   rw [if_neg hno]
                   exact ⟨rfl, rfl, rfl, rfl, rfl, rfl⟩)
                | (have hyes : asP I o s w := by unfold asP; split <;> omega
                   rw [if_pos hyes]
                   exact ⟨rfl, rfl, rfl, rfl, rfl, rfl⟩)
                | omega
              · refine x_aload_n (pc := 101) hC dX12_as_101 rfl ?_
                refine x_iconst (pc := 102) hC dX12_as_102 ?_
                refine x_mV (pc := 103) hC cv_X12_325 dX12_as_103 (m_refused M) M.1 rfl (by decide) rfl rfl (Nat.le_of_ble_eq_true rfl) ?_
                refine x_goto (pc := 106) hC 114 dX12_as_106 (by decide) ?_
                refine x_iret (pc := 114) hC rfl dX12_as_114 ?_
                have hcase : (asR I o s w) = if asP I o s w then (1, ax_u I o 0 0) else (-12, ax_u I o 0 2) := by
                  unfold asR; rw [if_pos b4, if_pos b19, if_neg b37]
                rw [hcase]
                first
                | (have hno : ¬ asP I o s w := by unfold asP; split <;> omega
                   rw [if_neg hno]
                   exact ⟨rfl, rfl, rfl, rfl, rfl, rfl⟩)
                | (have hyes : asP I o s w := by unfold asP; split <;> omega
                   rw [if_pos hyes]
                   exact ⟨rfl, rfl, rfl, rfl, rfl, rfl⟩)
                | omega
            · refine x_iconst (pc := 91) hC dX12_as_91 ?_
              refine x_goto (pc := 92) hC 96 dX12_as_92 (by decide) ?_
              refine x_istore_n (pc := 96) hC dX12_as_96 (Nat.le_of_ble_eq_true rfl) ?_
              dsimp only [List.set]
              refine x_iload_n (pc := 97) hC dX12_as_97 rfl ?_
              refine x_if_eq (pc := 98) hC 109 dX12_as_98 (by decide) (by omega) (fun b98 => ?_) (fun b98 => ?_)
              · refine x_aload_n (pc := 109) hC dX12_as_109 rfl ?_
                refine x_iconst (pc := 110) hC dX12_as_110 ?_
                refine x_mV (pc := 111) hC cv_X12_192 dX12_as_111 (m_fails M) M.1 rfl (by decide) rfl rfl (Nat.le_of_ble_eq_true rfl) ?_
                refine x_iret (pc := 114) hC rfl dX12_as_114 ?_
                have hcase : (asR I o s w) = if asP I o s w then (1, ax_u I o 0 0) else (-12, ax_u I o 0 2) := by
                  unfold asR; rw [if_pos b4, if_pos b19, if_neg b37]
                rw [hcase]
                first
                | (have hno : ¬ asP I o s w := by unfold asP; split <;> omega
                   rw [if_neg hno]
                   exact ⟨rfl, rfl, rfl, rfl, rfl, rfl⟩)
                | (have hyes : asP I o s w := by unfold asP; split <;> omega
                   rw [if_pos hyes]
                   exact ⟨rfl, rfl, rfl, rfl, rfl, rfl⟩)
                | omega
              · refine x_aload_n (pc := 101) hC dX12_as_101 rfl ?_
                refine x_iconst (pc := 102) hC dX12_as_102 ?_
                refine x_mV (pc := 103) hC cv_X12_325 dX12_as_103 (m_refused M) M.1 rfl (by decide) rfl rfl (Nat.le_of_ble_eq_true rfl) ?_
                refine x_goto (pc := 106) hC 114 dX12_as_106 (by decide) ?_
                refine x_iret (pc := 114) hC rfl dX12_as_114 ?_
                have hcase : (asR I o s w) = if asP I o s w then (1, ax_u I o 0 0) else (-12, ax_u I o 0 2) := by
                  unfold asR; rw [if_pos b4, if_pos b19, if_neg b37]
                rw [hcase]
                first
                | (have hno : ¬ asP I o s w := by unfold asP; split <;> omega
                   rw [if_neg hno]
                   exact ⟨rfl, rfl, rfl, rfl, rfl, rfl⟩)
                | (have hyes : asP I o s w := by unfold asP; split <;> omega
                   rw [if_pos hyes]
                   exact ⟨rfl, rfl, rfl, rfl, rfl, rfl⟩)
                | omega
        · refine x_aload_n (pc := 51) hC dX12_as_51 rfl ?_
          refine x_getO (pc := 52) hC gf_X12_100 dX12_as_52 M.1 (mo_slotSort M).1 ?_
          refine x_iload_n (pc := 55) hC dX12_as_55 rfl ?_
          refine x_iald (pc := 56) hC dX12_as_56 (mo_slotSort M).2.1 (by omega) (by rw [(mo_slotSort M).2.2]; omega) ?_
          refine x_iload_n (pc := 57) hC dX12_as_57 rfl ?_
          refine x_icmp_ne (pc := 58) hC 65 dX12_as_58 (by decide) (by omega) (by omega) (fun b58 => ?_) (fun b58 => ?_)
          · refine x_iconst (pc := 65) hC dX12_as_65 ?_
            refine x_goto (pc := 66) hC 96 dX12_as_66 (by decide) ?_
            refine x_istore_n (pc := 96) hC dX12_as_96 (Nat.le_of_ble_eq_true rfl) ?_
            dsimp only [List.set]
            refine x_iload_n (pc := 97) hC dX12_as_97 rfl ?_
            refine x_if_eq (pc := 98) hC 109 dX12_as_98 (by decide) (by omega) (fun b98 => ?_) (fun b98 => ?_)
            · refine x_aload_n (pc := 109) hC dX12_as_109 rfl ?_
              refine x_iconst (pc := 110) hC dX12_as_110 ?_
              refine x_mV (pc := 111) hC cv_X12_192 dX12_as_111 (m_fails M) M.1 rfl (by decide) rfl rfl (Nat.le_of_ble_eq_true rfl) ?_
              refine x_iret (pc := 114) hC rfl dX12_as_114 ?_
              have hcase : (asR I o s w) = if asP I o s w then (1, ax_u I o 0 0) else (-12, ax_u I o 0 2) := by
                unfold asR; rw [if_pos b4, if_pos b19, if_neg b37]
              rw [hcase]
              first
              | (have hno : ¬ asP I o s w := by unfold asP; split <;> omega
                 rw [if_neg hno]
                 exact ⟨rfl, rfl, rfl, rfl, rfl, rfl⟩)
              | (have hyes : asP I o s w := by unfold asP; split <;> omega
                 rw [if_pos hyes]
                 exact ⟨rfl, rfl, rfl, rfl, rfl, rfl⟩)
              | omega
            · refine x_aload_n (pc := 101) hC dX12_as_101 rfl ?_
              refine x_iconst (pc := 102) hC dX12_as_102 ?_
              refine x_mV (pc := 103) hC cv_X12_325 dX12_as_103 (m_refused M) M.1 rfl (by decide) rfl rfl (Nat.le_of_ble_eq_true rfl) ?_
              refine x_goto (pc := 106) hC 114 dX12_as_106 (by decide) ?_
              refine x_iret (pc := 114) hC rfl dX12_as_114 ?_
              have hcase : (asR I o s w) = if asP I o s w then (1, ax_u I o 0 0) else (-12, ax_u I o 0 2) := by
                unfold asR; rw [if_pos b4, if_pos b19, if_neg b37]
              rw [hcase]
              first
              | (have hno : ¬ asP I o s w := by unfold asP; split <;> omega
                 rw [if_neg hno]
                 exact ⟨rfl, rfl, rfl, rfl, rfl, rfl⟩)
              | (have hyes : asP I o s w := by unfold asP; split <;> omega
                 rw [if_pos hyes]
                 exact ⟨rfl, rfl, rfl, rfl, rfl, rfl⟩)
              | omega
          · refine x_iconst (pc := 61) hC dX12_as_61 ?_
            refine x_goto (pc := 62) hC 96 dX12_as_62 (by decide) ?_
            refine x_istore_n (pc := 96) hC dX12_as_96 (Nat.le_of_ble_eq_true rfl) ?_
            dsimp only [List.set]
            refine x_iload_n (pc := 97) hC dX12_as_97 rfl ?_
            refine x_if_eq (pc := 98) hC 109 dX12_as_98 (by decide) (by omega) (fun b98 => ?_) (fun b98 => ?_)
            · refine x_aload_n (pc := 109) hC dX12_as_109 rfl ?_
              refine x_iconst (pc := 110) hC dX12_as_110 ?_
              refine x_mV (pc := 111) hC cv_X12_192 dX12_as_111 (m_fails M) M.1 rfl (by decide) rfl rfl (Nat.le_of_ble_eq_true rfl) ?_
              refine x_iret (pc := 114) hC rfl dX12_as_114 ?_
              have hcase : (asR I o s w) = if asP I o s w then (1, ax_u I o 0 0) else (-12, ax_u I o 0 2) := by
                unfold asR; rw [if_pos b4, if_pos b19, if_neg b37]
              rw [hcase]
              first
              | (have hno : ¬ asP I o s w := by unfold asP; split <;> omega
                 rw [if_neg hno]
                 exact ⟨rfl, rfl, rfl, rfl, rfl, rfl⟩)
              | (have hyes : asP I o s w := by unfold asP; split <;> omega
                 rw [if_pos hyes]
                 exact ⟨rfl, rfl, rfl, rfl, rfl, rfl⟩)
              | omega
            · refine x_aload_n (pc := 101) hC dX12_as_101 rfl ?_
              refine x_iconst (pc := 102) hC dX12_as_102 ?_
              refine x_mV (pc := 103) hC cv_X12_325 dX12_as_103 (m_refused M) M.1 rfl (by decide) rfl rfl (Nat.le_of_ble_eq_true rfl) ?_
              refine x_goto (pc := 106) hC 114 dX12_as_106 (by decide) ?_
              refine x_iret (pc := 114) hC rfl dX12_as_114 ?_
              have hcase : (asR I o s w) = if asP I o s w then (1, ax_u I o 0 0) else (-12, ax_u I o 0 2) := by
                unfold asR; rw [if_pos b4, if_pos b19, if_neg b37]
              rw [hcase]
              first
              | (have hno : ¬ asP I o s w := by unfold asP; split <;> omega
                 rw [if_neg hno]
                 exact ⟨rfl, rfl, rfl, rfl, rfl, rfl⟩)
              | (have hyes : asP I o s w := by unfold asP; split <;> omega
                 rw [if_pos hyes]
                 exact ⟨rfl, rfl, rfl, rfl, rfl, rfl⟩)
              | omega
      · refine x_aload_n (pc := 40) hC dX12_as_40 rfl ?_
        refine x_iconst (pc := 41) hC dX12_as_41 ?_
        refine x_mV (pc := 42) hC cv_X12_192 dX12_as_42 (m_fails M) M.1 rfl (by decide) rfl rfl (Nat.le_of_ble_eq_true rfl) ?_
        refine x_iret (pc := 45) hC rfl dX12_as_45 ?_
        refine ⟨?_, rfl, rfl, ?_, rfl, rfl⟩
        · unfold asR; rw [if_pos b4, if_pos b19, if_pos b37]; try rfl
        · unfold asR; rw [if_pos b4, if_pos b19, if_pos b37]; try rfl
    · refine x_aload_n (pc := 22) hC dX12_as_22 rfl ?_
      refine x_bipush (pc := 23) hC dX12_as_23 (by decide) ?_
      refine x_mV (pc := 25) hC cv_X12_325 dX12_as_25 (m_refused M) M.1 rfl (by decide) rfl rfl (Nat.le_of_ble_eq_true rfl) ?_
      refine x_iret (pc := 28) hC rfl dX12_as_28 ?_
      refine ⟨?_, rfl, rfl, ?_, rfl, rfl⟩
      · unfold asR; rw [if_pos b4, if_neg b19]; try rfl
      · unfold asR; rw [if_pos b4, if_neg b19]; try rfl
  · refine x_aload_n (pc := 7) hC dX12_as_7 rfl ?_
    refine x_iconst (pc := 8) hC dX12_as_8 ?_
    refine x_mV (pc := 9) hC cv_X12_325 dX12_as_9 (m_refused M) M.1 rfl (by decide) rfl rfl (Nat.le_of_ble_eq_true rfl) ?_
    refine x_iret (pc := 12) hC rfl dX12_as_12 ?_
    refine ⟨?_, rfl, rfl, ?_, rfl, rfl⟩
    · unfold asR; rw [if_neg b4]; try rfl
    · unfold asR; rw [if_neg b4]; try rfl

set_option maxHeartbeats 4000000 in
set_option maxRecDepth 100000 in
theorem m_lose {G : ax_G} {T : Nat → Nat} {N : Nat → Int} {I : Nat → Int → Int} {R : Nat → Int → Option Nat} {z o : Nat} (M : axMo T N R o) {s : Int} (hS : miS I o) (hs : ax_r s) : axE G YX12_lose 2 [vR o, vI s] T N I R z (some (vI (lo I o s).1)) (lo I o s).2 := by

  refine ax_enter (by decide) (Nat.le_of_ble_eq_true rfl) (ax_cat rfl) (fun f hC => ?_)
  show axX G f 0 0 _ 0 [vR o, vI s, vU] [] T N I R z 0 0
  have h31 := hS.1 s
  refine x_iload_n (pc := 0) hC dX12_lose_0 rfl ?_
  refine x_mS (pc := 1) hC cs_X12_186 dX12_lose_1 (m_isSlot hs) rfl (by decide) rfl rfl (Nat.le_of_ble_eq_true rfl) ?_
  refine x_ifB_ne (pc := 4) hC 9 dX12_lose_4 (by decide) (fun b4 => ?_) (fun b4 => ?_)
  · refine x_aload_n (pc := 9) hC dX12_lose_9 rfl ?_
    refine x_getO (pc := 10) hC gf_X12_100 dX12_lose_10 M.1 (mo_slotSort M).1 ?_
    refine x_iload_n (pc := 13) hC dX12_lose_13 rfl ?_
    refine x_iald (pc := 14) hC dX12_lose_14 (mo_slotSort M).2.1 (by omega) (by rw [(mo_slotSort M).2.2]; omega) ?_
    refine x_bipush (pc := 15) hC dX12_lose_15 (by decide) ?_
    refine x_icmp_ne (pc := 17) hC 24 dX12_lose_17 (by decide) (by omega) (by omega) (fun b17 => ?_) (fun b17 => ?_)
    · refine x_iconst (pc := 24) hC dX12_lose_24 ?_
      refine x_istore_n (pc := 25) hC dX12_lose_25 (Nat.le_of_ble_eq_true rfl) ?_
      dsimp only [List.set]
      refine x_aload_n (pc := 26) hC dX12_lose_26 rfl ?_
      refine x_getO (pc := 27) hC gf_X12_100 dX12_lose_27 M.1 (mo_slotSort M).1 ?_
      refine x_iload_n (pc := 30) hC dX12_lose_30 rfl ?_
      refine x_bipush (pc := 31) hC dX12_lose_31 (by decide) ?_
      refine x_iast (pc := 33) hC dX12_lose_33 (mo_slotSort M).2.1 (by omega) (by rw [(mo_slotSort M).2.2]; omega) ?_
      refine x_iload_n (pc := 34) hC dX12_lose_34 rfl ?_
      refine x_iret (pc := 35) hC rfl dX12_lose_35 ?_
      refine ⟨?_, rfl, rfl, ?_, rfl, rfl⟩
      · unfold lo; rw [if_pos b4]
        first
        | (rw [if_pos (by assumption)]; done)
        | (rw [if_neg (by assumption)]; done)
      · unfold lo; rw [if_pos b4]
    · refine x_iconst (pc := 20) hC dX12_lose_20 ?_
      refine x_goto (pc := 21) hC 25 dX12_lose_21 (by decide) ?_
      refine x_istore_n (pc := 25) hC dX12_lose_25 (Nat.le_of_ble_eq_true rfl) ?_
      dsimp only [List.set]
      refine x_aload_n (pc := 26) hC dX12_lose_26 rfl ?_
      refine x_getO (pc := 27) hC gf_X12_100 dX12_lose_27 M.1 (mo_slotSort M).1 ?_
      refine x_iload_n (pc := 30) hC dX12_lose_30 rfl ?_
      refine x_bipush (pc := 31) hC dX12_lose_31 (by decide) ?_
      refine x_iast (pc := 33) hC dX12_lose_33 (mo_slotSort M).2.1 (by omega) (by rw [(mo_slotSort M).2.2]; omega) ?_
      refine x_iload_n (pc := 34) hC dX12_lose_34 rfl ?_
      refine x_iret (pc := 35) hC rfl dX12_lose_35 ?_
      refine ⟨?_, rfl, rfl, ?_, rfl, rfl⟩
      · unfold lo; rw [if_pos b4]
        first
        | (rw [if_pos (by assumption)]; done)
        | (rw [if_neg (by assumption)]; done)
      · unfold lo; rw [if_pos b4]
  · refine x_iconst (pc := 7) hC dX12_lose_7 ?_
    refine x_iret (pc := 8) hC rfl dX12_lose_8 ?_
    refine ⟨?_, rfl, rfl, ?_, rfl, rfl⟩
    · unfold lo; rw [if_neg b4]; try rfl
    · unfold lo; rw [if_neg b4]; try rfl

set_option maxHeartbeats 4000000 in
set_option maxRecDepth 100000 in
theorem m_againstNumber {G : ax_G} {T : Nat → Nat} {N : Nat → Int} {I : Nat → Int → Int} {R : Nat → Int → Option Nat} {z o : Nat} (M : axMo T N R o) {s i : Int} (hS : miS I o) (hs : 0 ≤ s ∧ s < 5) (hi : ax_r i) : axE G YX12_againstNumber 1 [vR o, vI s, vI i] T N I R z (some (vI (anR I o s i))) I := by

  refine ax_enter (by decide) (Nat.le_of_ble_eq_true rfl) (ax_cat rfl) (fun f hC => ?_)
  show axX G f 0 0 _ 0 [vR o, vI s, vI i] [] T N I R z 0 0
  have h31 := hS.1 s
  have h32 := hS.2.1 s
  refine x_aload_n (pc := 0) hC dX12_againstNumber_0 rfl ?_
  refine x_getO (pc := 1) hC gf_X12_100 dX12_againstNumber_1 M.1 (mo_slotSort M).1 ?_
  refine x_iload_n (pc := 4) hC dX12_againstNumber_4 rfl ?_
  refine x_iald (pc := 5) hC dX12_againstNumber_5 (mo_slotSort M).2.1 (by omega) (by rw [(mo_slotSort M).2.2]; omega) ?_
  refine x_iconst (pc := 6) hC dX12_againstNumber_6 ?_
  refine x_icmp_ne (pc := 7) hC 14 dX12_againstNumber_7 (by decide) (by omega) (by omega) (fun b7 => ?_) (fun b7 => ?_)
  · refine x_aload_n (pc := 14) hC dX12_againstNumber_14 rfl ?_
    refine x_getO (pc := 15) hC gf_X12_100 dX12_againstNumber_15 M.1 (mo_slotSort M).1 ?_
    refine x_iload_n (pc := 18) hC dX12_againstNumber_18 rfl ?_
    refine x_iald (pc := 19) hC dX12_againstNumber_19 (mo_slotSort M).2.1 (by omega) (by rw [(mo_slotSort M).2.2]; omega) ?_
    refine x_bipush (pc := 20) hC dX12_againstNumber_20 (by decide) ?_
    refine x_icmp_ne (pc := 22) hC 29 dX12_againstNumber_22 (by decide) (by omega) (by omega) (fun b22 => ?_) (fun b22 => ?_)
    · refine x_iload_n (pc := 29) hC dX12_againstNumber_29 rfl ?_
      refine x_iconst (pc := 30) hC dX12_againstNumber_30 ?_
      refine x_aload_n (pc := 31) hC dX12_againstNumber_31 rfl ?_
      refine x_getO (pc := 32) hC gf_X12_103 dX12_againstNumber_32 M.1 (mo_slotSize M).1 ?_
      refine x_iload_n (pc := 35) hC dX12_againstNumber_35 rfl ?_
      refine x_iald (pc := 36) hC dX12_againstNumber_36 (mo_slotSize M).2.1 (by omega) (by rw [(mo_slotSize M).2.2]; omega) ?_
      refine x_iconst (pc := 37) hC dX12_againstNumber_37 ?_
      refine x_isub (pc := 38) hC dX12_againstNumber_38 ?_
      refine x_mS (pc := 39) hC cs_X12_139 dX12_againstNumber_39 (m_within hi (by decide) (by omega)) rfl (by decide) rfl rfl (Nat.le_of_ble_eq_true rfl) ?_
      refine x_ifB_eq (pc := 42) hC 49 dX12_againstNumber_42 (by decide) (fun b42 => ?_) (fun b42 => ?_)
      · refine x_iconst (pc := 49) hC dX12_againstNumber_49 ?_
        refine x_iret (pc := 50) hC rfl dX12_againstNumber_50 ?_
        refine ⟨?_, rfl, rfl, rfl, rfl, rfl⟩
        unfold anR
        first
        | (rw [if_pos (by omega)]; done)
        | (rw [if_neg (by omega), if_pos (by omega)]; done)
        | (rw [if_neg (by omega), if_neg (by omega), if_pos (by omega)]; done)
        | (rw [if_neg (by omega), if_neg (by omega), if_neg (by omega)]; done)
      · refine x_iconst (pc := 45) hC dX12_againstNumber_45 ?_
        refine x_goto (pc := 46) hC 50 dX12_againstNumber_46 (by decide) ?_
        refine x_iret (pc := 50) hC rfl dX12_againstNumber_50 ?_
        refine ⟨?_, rfl, rfl, rfl, rfl, rfl⟩
        unfold anR
        first
        | (rw [if_pos (by omega)]; done)
        | (rw [if_neg (by omega), if_pos (by omega)]; done)
        | (rw [if_neg (by omega), if_neg (by omega), if_pos (by omega)]; done)
        | (rw [if_neg (by omega), if_neg (by omega), if_neg (by omega)]; done)
    · refine x_iconst (pc := 25) hC dX12_againstNumber_25 ?_
      refine x_goto (pc := 26) hC 50 dX12_againstNumber_26 (by decide) ?_
      refine x_iret (pc := 50) hC rfl dX12_againstNumber_50 ?_
      refine ⟨?_, rfl, rfl, rfl, rfl, rfl⟩
      unfold anR
      first
      | (rw [if_pos (by omega)]; done)
      | (rw [if_neg (by omega), if_pos (by omega)]; done)
      | (rw [if_neg (by omega), if_neg (by omega), if_pos (by omega)]; done)
      | (rw [if_neg (by omega), if_neg (by omega), if_neg (by omega)]; done)
  · refine x_iconst (pc := 10) hC dX12_againstNumber_10 ?_
    refine x_goto (pc := 11) hC 50 dX12_againstNumber_11 (by decide) ?_
    refine x_iret (pc := 50) hC rfl dX12_againstNumber_50 ?_
    refine ⟨?_, rfl, rfl, rfl, rfl, rfl⟩
    unfold anR
    first
    | (rw [if_pos (by omega)]; done)
    | (rw [if_neg (by omega), if_pos (by omega)]; done)
    | (rw [if_neg (by omega), if_neg (by omega), if_pos (by omega)]; done)
    | (rw [if_neg (by omega), if_neg (by omega), if_neg (by omega)]; done)

theorem anR_r (I : Nat → Int → Int) (o : Nat) (s i : Int) : 0 ≤ anR I o s i ∧ anR I o s i ≤ 3 := by
  unfold anR; split
  · omega
  · split
    · omega
    · split <;> omega
theorem anR_0 {I : Nat → Int → Int} {o : Nat} {s i : Int} (h : anR I o s i = 0) : I (o + 31) s ≠ 2 ∧ I (o + 31) s ≠ -9 ∧ 0 ≤ i ∧ i < I (o + 32) s := by
  unfold anR at h
  split at h
  · omega
  · split at h
    · omega
    · split at h
      · exact ⟨by assumption, by assumption, by assumption⟩
      · omega

set_option maxHeartbeats 4000000 in
set_option maxRecDepth 100000 in
theorem m_write {G : ax_G} {T : Nat → Nat} {N : Nat → Int} {I : Nat → Int → Int} {R : Nat → Int → Option Nat} {z o : Nat} (M : axMo T N R o) {s i v : Int} (hS : miS I o) (hs : ax_r s) (hi : ax_r i) (hv : ax_r v) : axE G YX12_write 2 [vR o, vI s, vI i, vI v] T N I R z (some (vI (wr I o s i v).1)) (wr I o s i v).2 := by

  refine ax_enter (by decide) (Nat.le_of_ble_eq_true rfl) (ax_cat rfl) (fun f hC => ?_)
  show axX G f 0 0 _ 0 [vR o, vI s, vI i, vI v, vU] [] T N I R z 0 0
  have h31 := hS.1 s
  have h32 := hS.2.1 s
  have har := anR_r I o s i
  refine x_iload_n (pc := 0) hC dX12_write_0 rfl ?_
  refine x_mS (pc := 1) hC cs_X12_186 dX12_write_1 (m_isSlot hs) rfl (by decide) rfl rfl (Nat.le_of_ble_eq_true rfl) ?_
  refine x_ifB_ne (pc := 4) hC 13 dX12_write_4 (by decide) (fun b4 => ?_) (fun b4 => ?_)
  · refine x_aload_n (pc := 13) hC dX12_write_13 rfl ?_
    refine x_iload_n (pc := 14) hC dX12_write_14 rfl ?_
    refine x_iload_n (pc := 15) hC dX12_write_15 rfl ?_
    refine x_mV (pc := 16) hC cv_X12_331 dX12_write_16 (m_againstNumber M hS b4 hi) M.1 rfl (by decide) rfl rfl (Nat.le_of_ble_eq_true rfl) ?_
    refine x_istore (pc := 19) hC dX12_write_19 (Nat.le_of_ble_eq_true rfl) ?_
    dsimp only [List.set]
    refine x_iload (pc := 21) hC dX12_write_21 rfl ?_
    refine x_if_eq (pc := 23) hC 33 dX12_write_23 (by decide) (by omega) (fun b23 => ?_) (fun b23 => ?_)
    · have ha0 := anR_0 b23
      refine x_aload_n (pc := 33) hC dX12_write_33 rfl ?_
      refine x_getO (pc := 34) hC gf_X12_106 dX12_write_34 M.1 (mo_cells M).1 ?_
      refine x_bipush (pc := 37) hC dX12_write_37 (by decide) ?_
      refine x_iload_n (pc := 39) hC dX12_write_39 rfl ?_
      refine x_imul (pc := 40) hC dX12_write_40 ?_
      refine x_iload_n (pc := 41) hC dX12_write_41 rfl ?_
      refine x_iadd (pc := 42) hC dX12_write_42 ?_
      refine x_aload_n (pc := 43) hC dX12_write_43 rfl ?_
      refine x_getO (pc := 44) hC gf_X12_100 dX12_write_44 M.1 (mo_slotSort M).1 ?_
      refine x_iload_n (pc := 47) hC dX12_write_47 rfl ?_
      refine x_iald (pc := 48) hC dX12_write_48 (mo_slotSort M).2.1 (by omega) (by rw [(mo_slotSort M).2.2]; omega) ?_
      refine x_if_ne (pc := 49) hC 57 dX12_write_49 (by decide) (by omega) (fun b49 => ?_) (fun b49 => ?_)
      · refine x_iload_n (pc := 57) hC dX12_write_57 rfl ?_
        refine x_iast (pc := 58) hC dX12_write_58 (mo_cells M).2.1 (by omega) (by rw [(mo_cells M).2.2]; omega) ?_
        refine x_aload_n (pc := 59) hC dX12_write_59 rfl ?_
        refine x_iconst (pc := 60) hC dX12_write_60 ?_
        refine x_mV (pc := 61) hC cv_X12_325 dX12_write_61 (m_refused M) M.1 rfl (by decide) rfl rfl (Nat.le_of_ble_eq_true rfl) ?_
        refine x_iret (pc := 64) hC rfl dX12_write_64 ?_
        refine ⟨?_, rfl, rfl, ?_, rfl, rfl⟩
        · unfold wr; rw [if_pos b4, if_pos b23]
        · unfold wr; rw [if_pos b4, if_pos b23]
          first
          | (rw [if_pos (by assumption)]; done)
          | (rw [if_neg (by assumption)]; done)
      · refine x_iload_n (pc := 52) hC dX12_write_52 rfl ?_
        refine x_i2b (pc := 53) hC dX12_write_53 (by omega) ?_
        refine x_goto (pc := 54) hC 58 dX12_write_54 (by decide) ?_
        refine x_iast (pc := 58) hC dX12_write_58 (mo_cells M).2.1 (by omega) (by rw [(mo_cells M).2.2]; omega) ?_
        refine x_aload_n (pc := 59) hC dX12_write_59 rfl ?_
        refine x_iconst (pc := 60) hC dX12_write_60 ?_
        refine x_mV (pc := 61) hC cv_X12_325 dX12_write_61 (m_refused M) M.1 rfl (by decide) rfl rfl (Nat.le_of_ble_eq_true rfl) ?_
        refine x_iret (pc := 64) hC rfl dX12_write_64 ?_
        refine ⟨?_, rfl, rfl, ?_, rfl, rfl⟩
        · unfold wr; rw [if_pos b4, if_pos b23]
        · unfold wr; rw [if_pos b4, if_pos b23]
          first
          | (rw [if_pos (by assumption)]; done)
          | (rw [if_neg (by assumption)]; done)
    · refine x_aload_n (pc := 26) hC dX12_write_26 rfl ?_
      refine x_iload (pc := 27) hC dX12_write_27 rfl ?_
      refine x_mV (pc := 29) hC cv_X12_192 dX12_write_29 (m_fails M) M.1 rfl (by decide) rfl rfl (Nat.le_of_ble_eq_true rfl) ?_
      refine x_iret (pc := 32) hC rfl dX12_write_32 ?_
      refine ⟨?_, rfl, rfl, ?_, rfl, rfl⟩
      · unfold wr; rw [if_pos b4, if_neg b23]; try rfl
      · unfold wr; rw [if_pos b4, if_neg b23]; try rfl
  · refine x_aload_n (pc := 7) hC dX12_write_7 rfl ?_
    refine x_iconst (pc := 8) hC dX12_write_8 ?_
    refine x_mV (pc := 9) hC cv_X12_325 dX12_write_9 (m_refused M) M.1 rfl (by decide) rfl rfl (Nat.le_of_ble_eq_true rfl) ?_
    refine x_iret (pc := 12) hC rfl dX12_write_12 ?_
    refine ⟨?_, rfl, rfl, ?_, rfl, rfl⟩
    · unfold wr; rw [if_neg b4]; try rfl
    · unfold wr; rw [if_neg b4]; try rfl

