/-! THE REFERENCE: parts and results -/
def isLn (L : List Int) : Prop := ∀ v ∈ L, 0 ≤ v ∧ v < 100
/-- the result so far -/
def rM (J : Nat → Int → Int) (o : Nat) (L : List Int) : Prop := J o 21 = L.length ∧ seg (J (o + 15)) 0 L.length = L
/-- all but the result has stayed -/
def agR (B J : Nat → Int → Int) (o : Nat) : Prop := (∀ q, q ≠ o → q ≠ o + 15 → J q = B q) ∧ ∀ k, k ≠ 21 → J o k = B o k
theorem agR.rf {B : Nat → Int → Int} {o : Nat} : agR B B o := ⟨fun _ _ _ => rfl, fun _ _ => rfl⟩
theorem agR.tr {A B C : Nat → Int → Int} {o : Nat} (h1 : agR A B o) (h2 : agR B C o) : agR A C o := ⟨fun q a b => (h2.1 q a b).trans (h1.1 q a b), fun k a => (h2.2 k a).trans (h1.2 k a)⟩
theorem agR.scr {B J : Nat → Int → Int} {o : Nat} (h : agR B J o) : scr B J o := ⟨fun q a b => h.1 q a (by omega), fun k a => h.2 k (fun e => a (Or.inr (Or.inr (Or.inl (by omega)))))⟩
abbrev rApp (J : Nat → Int → Int) (o : Nat) (v : Int) : Nat → Int → Int := ax_u (ax_u J (o + 15) (J o 21) v) o 21 (ax_u J (o + 15) (J o 21) v o 21 + 1)
theorem agR.app {B J : Nat → Int → Int} {o : Nat} {v : Int} (h : agR B J o) : agR B (rApp J o v) o := by
  refine ⟨fun q h1 h2 => ?_, fun k hk => ?_⟩
  · unfold rApp
    rw [axu_row h1, axu_row h2]; exact h.1 q h1 h2
  · unfold rApp
    rw [axu_j hk, axu_a (by omega)]; exact h.2 k hk
theorem rM.app {J : Nat → Int → Int} {o : Nat} {v : Int} {L : List Int} (h : rM J o L) : rM (rApp J o v) o (L ++ [v]) := by
  obtain ⟨h1, h2⟩ := h
  have e0 : ax_u J (o + 15) (J o 21) v o 21 = J o 21 := axu_a (by omega)
  refine ⟨?_, ?_⟩
  · unfold rApp
    rw [axu_s, e0, h1]; simp
  · have hl : (((L ++ [v]).length : Nat) : Int) = L.length + 1 := by simp
    rw [hl, seg_snoc (by omega)]
    unfold rApp
    rw [axu_row (show o + 15 ≠ o by omega), h1, axu_s]
    congr 1
    exact Eq.trans (seg_congr (fun k _ hk => axu_j (by omega))) h2
theorem seg_isLn {f : Int → Int} (h : ∀ j, 0 ≤ f j ∧ f j < 100) (i j : Int) : isLn (seg f i j) := fun v hv => by
  obtain ⟨k, -, -, rfl⟩ := seg_mem.mp hv
  exact h k
theorem isLn.app {A B : List Int} (h1 : isLn A) (h2 : isLn B) : isLn (A ++ B) := fun v hv => (List.mem_append.mp hv).elim (h1 v) (h2 v)
theorem isLn.nil : isLn [] := fun v hv => by simp at hv

set_option maxHeartbeats 4000000 in
set_option maxRecDepth 100000 in
theorem m_takes {G : ax_G} {T : Nat → Nat} {N : Nat → Int} {I : Nat → Int → Int} {R : Nat → Int → Option Nat} {z o : Nat} (M : axMo T N R o) {c i e : Int} {L : List Int} (hr : rM I o L) (hc : 0 ≤ c ∧ c < 26) (hi : 0 ≤ i) (hie : i ≤ e) (he : e ≤ 16) (hroom : L.length + (e - i) ≤ 160) : axEx G YX12_takes 0 [vR o, vI c, vI i, vI e] T N I R z (fun r1 I1 => r1 = none ∧ agR I I1 o ∧ rM I1 o (L ++ seg (rwI I o c) i e)) := by

  refine ax_enter (by decide) (Nat.le_of_ble_eq_true rfl) (ax_cat rfl) (fun f hC => ?_)
  show axX G f 0 0 _ 0 [vR o, vI c, vI i, vI e, vU] [] T N I R z 0 0
  have loop : ∀ (n : Nat) (x : Int) (J : Nat → Int → Int), (e - x).toNat ≤ n → i ≤ x → x ≤ e → agR I J o → rM J o (L ++ seg (rwI I o c) i x) → axX G f 0 0 (fun r1 T1 N1 I1 R1 z1 => (r1 = none ∧ agR I I1 o ∧ rM I1 o (L ++ seg (rwI I o c) i e)) ∧ T1 = T ∧ N1 = N ∧ R1 = R ∧ z1 = z) 3 [vR o, vI c, vI i, vI e, vI x] [] T N J R z 0 0 := by
    intro n
    induction n with
    | zero =>
      intro x J hn h1 h2 hJ hM
      have hx : x = e := by omega
      refine x_iload (pc := 3) hC dX12_takes_3 rfl ?_
      refine x_iload_n (pc := 5) hC dX12_takes_5 rfl ?_
      refine x_icmp_ge (pc := 6) hC 46 dX12_takes_6 (by decide) (by omega) (by omega) (fun b6 => ?_) (fun b6 => ?_)
      · refine x_vret (pc := 46) hC rfl dX12_takes_46 ?_
        exact ⟨⟨rfl, hJ, by rw [hx] at hM; exact hM⟩, rfl, rfl, rfl, rfl⟩
      · omega
    | succ n ih =>
      intro x J hn h1 h2 hJ hM
      have hts : (J o 21) = L.length + (x - i) := by
        have := hM.1
        simp only [List.length_append, seg_len] at this
        omega
      have e5 : J (o + 5) = I (o + 5) := hJ.1 (o + 5) (by omega) (by omega)
      refine x_iload (pc := 3) hC dX12_takes_3 rfl ?_
      refine x_iload_n (pc := 5) hC dX12_takes_5 rfl ?_
      refine x_icmp_ge (pc := 6) hC 46 dX12_takes_6 (by decide) (by omega) (by omega) (fun b6 => ?_) (fun b6 => ?_)
      · refine x_vret (pc := 46) hC rfl dX12_takes_46 ?_
        have hx : x = e := by omega
        exact ⟨⟨rfl, hJ, by rw [hx] at hM; exact hM⟩, rfl, rfl, rfl, rfl⟩
      · refine x_aload_n (pc := 9) hC dX12_takes_9 rfl ?_
        refine x_getO (pc := 10) hC gf_X12_52 dX12_takes_10 M.1 (mo_result M).1 ?_
        refine x_aload_n (pc := 13) hC dX12_takes_13 rfl ?_
        refine x_getI (pc := 14) hC gf_X12_210 dX12_takes_14 M.1 ?_
        refine x_aload_n (pc := 17) hC dX12_takes_17 rfl ?_
        refine x_getO (pc := 18) hC gf_X12_22 dX12_takes_18 M.1 (mo_line M).1 ?_
        refine x_bipush (pc := 21) hC dX12_takes_21 (by decide) ?_
        refine x_iload_n (pc := 23) hC dX12_takes_23 rfl ?_
        refine x_imul (pc := 24) hC dX12_takes_24 ?_
        refine x_iload (pc := 25) hC dX12_takes_25 rfl ?_
        refine x_iadd (pc := 27) hC dX12_takes_27 ?_
        refine x_iald (pc := 28) hC dX12_takes_28 (mo_line M).2.1 (by omega) (by rw [(mo_line M).2.2]; omega) ?_
        refine x_iast (pc := 29) hC dX12_takes_29 (mo_result M).2.1 (by omega) (by rw [(mo_result M).2.2]; omega) ?_
        refine x_aload_n (pc := 30) hC dX12_takes_30 rfl ?_
        refine x_dup (pc := 31) hC dX12_takes_31 rfl ?_
        refine x_getI (pc := 32) hC gf_X12_210 dX12_takes_32 M.1 ?_
        refine x_iconst (pc := 35) hC dX12_takes_35 ?_
        refine x_iadd (pc := 36) hC dX12_takes_36 ?_
        refine x_putI (pc := 37) hC pf_X12_210 dX12_takes_37 M.1 (by decide) ?_
        refine x_iinc (pc := 40) hC dX12_takes_40 rfl ?_
        dsimp only [List.set]
        refine x_goto (pc := 43) hC 3 dX12_takes_43 (by decide) ?_
        refine ih (x + 1) _ (by omega) (by omega) (by omega) hJ.app ?_
        rw [seg_snoc h1, ← List.append_assoc, show J (o + 5) (16 * c + x) = rwI I o c x by rw [e5]]
        exact hM.app
  refine x_iload_n (pc := 0) hC dX12_takes_0 rfl ?_
  refine x_istore (pc := 1) hC dX12_takes_1 (Nat.le_of_ble_eq_true rfl) ?_
  dsimp only [List.set]
  exact loop (e - i).toNat i I (Nat.le_refl _) (by omega) hie agR.rf (by rw [seg_nil (Int.le_refl _), List.append_nil]; exact hr)

set_option maxHeartbeats 4000000 in
set_option maxRecDepth 100000 in
theorem m_isSamePart {G : ax_G} {T : Nat → Nat} {N : Nat → Int} {I : Nat → Int → Int} {R : Nat → Int → Option Nat} {z o : Nat} (M : axMo T N R o) {a i ie b j je : Int} (hl : ∀ j, 0 ≤ I (o + 5) j ∧ I (o + 5) j < 100) (ha : 0 ≤ a ∧ a < 26) (hi : 0 ≤ i ∧ i ≤ ie ∧ ie ≤ 16) (hb : 0 ≤ b ∧ b < 26) (hj : 0 ≤ j ∧ j ≤ je ∧ je ≤ 16) : axE G YX12_isSamePart 1 [vR o, vI a, vI i, vI ie, vI b, vI j, vI je] T N I R z (some (vI (bI (seg (rwI I o a) i ie = seg (rwI I o b) j je)))) I := by

  refine ax_enter (by decide) (Nat.le_of_ble_eq_true rfl) (ax_cat rfl) (fun f hC => ?_)
  show axX G f 0 0 _ 0 [vR o, vI a, vI i, vI ie, vI b, vI j, vI je, vU, vU] [] T N I R z 0 0
  have hiff := seg_eq (f := rwI I o a) (g := rwI I o b) hi.2.1 hj.2.1
  have no : ∀ (x : Int), ¬ seg (rwI I o a) i ie = seg (rwI I o b) j je → 0 ≤ x → x ≤ 16 → axX G f 0 0 (fun r1 T1 N1 I1 R1 z1 => r1 = some (vI (bI (seg (rwI I o a) i ie = seg (rwI I o b) j je))) ∧ T1 = T ∧ N1 = N ∧ I1 = I ∧ R1 = R ∧ z1 = z) 21 [vR o, vI a, vI i, vI ie, vI b, vI j, vI je, vI 0, vI x] [] T N I R z 0 0 := by
    intro x hne h0 h1
    refine x_iload (pc := 21) hC dX12_isSamePart_21 rfl ?_
    refine x_iload_n (pc := 23) hC dX12_isSamePart_23 rfl ?_
    refine x_iload_n (pc := 24) hC dX12_isSamePart_24 rfl ?_
    refine x_isub (pc := 25) hC dX12_isSamePart_25 ?_
    refine x_icmp_ge (pc := 26) hC 58 dX12_isSamePart_26 (by decide) (by omega) (by omega) (fun b26 => ?_) (fun b26 => ?_)
    · refine x_iload (pc := 58) hC dX12_isSamePart_58 rfl ?_
      refine x_zret (pc := 60) hC rfl dX12_isSamePart_60 (Or.inl rfl) ?_
      exact ⟨by rw [bI_f hne], rfl, rfl, rfl, rfl, rfl⟩
    · refine x_iload (pc := 29) hC dX12_isSamePart_29 rfl ?_
      refine x_if_eq (pc := 31) hC 58 dX12_isSamePart_31 (by decide) (by omega) (fun b31 => ?_) (fun b31 => ?_)
      · refine x_iload (pc := 58) hC dX12_isSamePart_58 rfl ?_
        refine x_zret (pc := 60) hC rfl dX12_isSamePart_60 (Or.inl rfl) ?_
        exact ⟨by rw [bI_f hne], rfl, rfl, rfl, rfl, rfl⟩
      · exact absurd rfl (by assumption)
  have loop : ie - i = je - j → ∀ (n : Nat) (x : Int), (ie - i - x).toNat ≤ n → 0 ≤ x → x ≤ ie - i → (∀ k, 0 ≤ k → k < x → rwI I o a (i + k) = rwI I o b (j + k)) → axX G f 0 0 (fun r1 T1 N1 I1 R1 z1 => r1 = some (vI (bI (seg (rwI I o a) i ie = seg (rwI I o b) j je))) ∧ T1 = T ∧ N1 = N ∧ I1 = I ∧ R1 = R ∧ z1 = z) 21 [vR o, vI a, vI i, vI ie, vI b, vI j, vI je, vI 1, vI x] [] T N I R z 0 0 := by
    intro hlen n
    induction n with
    | zero =>
      intro x hn h0 h1 hk
      refine x_iload (pc := 21) hC dX12_isSamePart_21 rfl ?_
      refine x_iload_n (pc := 23) hC dX12_isSamePart_23 rfl ?_
      refine x_iload_n (pc := 24) hC dX12_isSamePart_24 rfl ?_
      refine x_isub (pc := 25) hC dX12_isSamePart_25 ?_
      refine x_icmp_ge (pc := 26) hC 58 dX12_isSamePart_26 (by decide) (by omega) (by omega) (fun b26 => ?_) (fun b26 => ?_)
      · refine x_iload (pc := 58) hC dX12_isSamePart_58 rfl ?_
        refine x_zret (pc := 60) hC rfl dX12_isSamePart_60 (Or.inr rfl) ?_
        exact ⟨by rw [bI_t (hiff.mpr ⟨hlen, fun k a1 a2 => hk k a1 (by omega)⟩)], rfl, rfl, rfl, rfl, rfl⟩
      · omega
    | succ n ih =>
      intro x hn h0 h1 hk
      refine x_iload (pc := 21) hC dX12_isSamePart_21 rfl ?_
      refine x_iload_n (pc := 23) hC dX12_isSamePart_23 rfl ?_
      refine x_iload_n (pc := 24) hC dX12_isSamePart_24 rfl ?_
      refine x_isub (pc := 25) hC dX12_isSamePart_25 ?_
      refine x_icmp_ge (pc := 26) hC 58 dX12_isSamePart_26 (by decide) (by omega) (by omega) (fun b26 => ?_) (fun b26 => ?_)
      · refine x_iload (pc := 58) hC dX12_isSamePart_58 rfl ?_
        refine x_zret (pc := 60) hC rfl dX12_isSamePart_60 (Or.inr rfl) ?_
        exact ⟨by rw [bI_t (hiff.mpr ⟨hlen, fun k a1 a2 => hk k a1 (by omega)⟩)], rfl, rfl, rfl, rfl, rfl⟩
      · refine x_iload (pc := 29) hC dX12_isSamePart_29 rfl ?_
        refine x_if_eq (pc := 31) hC 58 dX12_isSamePart_31 (by decide) (by decide) (fun b31 => absurd b31 (by decide)) (fun _ => ?_)
        refine x_aload_n (pc := 34) hC dX12_isSamePart_34 rfl ?_
        refine x_iload_n (pc := 35) hC dX12_isSamePart_35 rfl ?_
        refine x_iload_n (pc := 36) hC dX12_isSamePart_36 rfl ?_
        refine x_iload (pc := 37) hC dX12_isSamePart_37 rfl ?_
        refine x_iadd (pc := 39) hC dX12_isSamePart_39 ?_
        refine x_iload (pc := 40) hC dX12_isSamePart_40 rfl ?_
        refine x_iload (pc := 42) hC dX12_isSamePart_42 rfl ?_
        refine x_iload (pc := 44) hC dX12_isSamePart_44 rfl ?_
        refine x_iadd (pc := 46) hC dX12_isSamePart_46 ?_
        refine x_mV (pc := 47) hC cv_X12_143 dX12_isSamePart_47 (m_isSame M hl ha (by omega) hb (by omega)) M.1 rfl (by decide) rfl rfl (Nat.le_of_ble_eq_true rfl) ?_
        by_cases hs : rwI I o a (i + x) = rwI I o b (j + x)
        · rw [bI_t hs]
          refine x_istore (pc := 50) hC dX12_isSamePart_50 (Nat.le_of_ble_eq_true rfl) ?_
          dsimp only [List.set]
          refine x_iinc (pc := 52) hC dX12_isSamePart_52 rfl ?_
          dsimp only [List.set]
          refine x_goto (pc := 55) hC 21 dX12_isSamePart_55 (by decide) ?_
          refine ih (x + 1) (by omega) (by omega) (by omega) (fun k a1 a2 => ?_)
          by_cases hkx : k = x
          · rw [hkx]; exact hs
          · exact hk k a1 (by omega)
        · rw [bI_f hs]
          refine x_istore (pc := 50) hC dX12_isSamePart_50 (Nat.le_of_ble_eq_true rfl) ?_
          dsimp only [List.set]
          refine x_iinc (pc := 52) hC dX12_isSamePart_52 rfl ?_
          dsimp only [List.set]
          refine x_goto (pc := 55) hC 21 dX12_isSamePart_55 (by decide) ?_
          exact no (x + 1) (fun he => hs ((hiff.mp he).2 x h0 (by omega))) (by omega) (by omega)
  refine x_iload_n (pc := 0) hC dX12_isSamePart_0 rfl ?_
  refine x_iload_n (pc := 1) hC dX12_isSamePart_1 rfl ?_
  refine x_isub (pc := 2) hC dX12_isSamePart_2 ?_
  refine x_iload (pc := 3) hC dX12_isSamePart_3 rfl ?_
  refine x_iload (pc := 5) hC dX12_isSamePart_5 rfl ?_
  refine x_isub (pc := 7) hC dX12_isSamePart_7 ?_
  refine x_icmp_ne (pc := 8) hC 15 dX12_isSamePart_8 (by decide) (by omega) (by omega) (fun b8 => ?_) (fun b8 => ?_)
  · refine x_iconst (pc := 15) hC dX12_isSamePart_15 ?_
    refine x_istore (pc := 16) hC dX12_isSamePart_16 (Nat.le_of_ble_eq_true rfl) ?_
    dsimp only [List.set]
    refine x_iconst (pc := 18) hC dX12_isSamePart_18 ?_
    refine x_istore (pc := 19) hC dX12_isSamePart_19 (Nat.le_of_ble_eq_true rfl) ?_
    dsimp only [List.set]
    first
    | exact loop (by assumption) _ 0 (Nat.le_refl _) (by omega) (by omega) (fun k a1 a2 => by omega)
    | exact no 0 (fun he => absurd (hiff.mp he).1 (by assumption)) (by omega) (by omega)
  · refine x_iconst (pc := 11) hC dX12_isSamePart_11 ?_
    refine x_goto (pc := 12) hC 16 dX12_isSamePart_12 (by decide) ?_
    refine x_istore (pc := 16) hC dX12_isSamePart_16 (Nat.le_of_ble_eq_true rfl) ?_
    dsimp only [List.set]
    refine x_iconst (pc := 18) hC dX12_isSamePart_18 ?_
    refine x_istore (pc := 19) hC dX12_isSamePart_19 (Nat.le_of_ble_eq_true rfl) ?_
    dsimp only [List.set]
    first
    | exact loop (by assumption) _ 0 (Nat.le_refl _) (by omega) (by omega) (fun k a1 a2 => by omega)
    | exact no 0 (fun he => absurd (hiff.mp he).1 (by assumption)) (by omega) (by omega)

set_option maxHeartbeats 4000000 in
set_option maxRecDepth 100000 in
theorem m_laysResult {G : ax_G} {T : Nat → Nat} {N : Nat → Int} {I : Nat → Int → Int} {R : Nat → Int → Option Nat} {z o : Nat} (M : axMo T N R o) {c : Int} {L : List Int} (hr : rM I o L) (hc : 0 ≤ c ∧ c < 26) (hL : (L.length : Int) ≤ 16) : axEx G YX12_laysResult 0 [vR o, vI c] T N I R z (fun r1 I1 => r1 = none ∧ (∀ q, q ≠ o + 5 → q ≠ o + 6 → I1 q = I q) ∧ (∀ j, I1 (o + 6) j = if j = c then (L.length : Int) else I (o + 6) j) ∧ ∀ j, I1 (o + 5) j = if 16 * c ≤ j ∧ j < 16 * c + L.length then L.getD (j - 16 * c).toNat 0 else I (o + 5) j) := by

  refine ax_enter (by decide) (Nat.le_of_ble_eq_true rfl) (ax_cat rfl) (fun f hC => ?_)
  show axX G f 0 0 _ 0 [vR o, vI c, vU] [] T N I R z 0 0
  have loop : ∀ (n : Nat) (x : Int) (J : Nat → Int → Int), (L.length - x).toNat ≤ n → 0 ≤ x → x ≤ L.length → (∀ q, q ≠ o + 5 → q ≠ o + 6 → J q = I q) → (∀ j, J (o + 6) j = if j = c then (L.length : Int) else I (o + 6) j) → (∀ j, J (o + 5) j = if 16 * c ≤ j ∧ j < 16 * c + x then L.getD (j - 16 * c).toNat 0 else I (o + 5) j) → axX G f 0 0 (fun r1 T1 N1 I1 R1 z1 => (r1 = none ∧ (∀ q, q ≠ o + 5 → q ≠ o + 6 → I1 q = I q) ∧ (∀ j, I1 (o + 6) j = if j = c then (L.length : Int) else I (o + 6) j) ∧ ∀ j, I1 (o + 5) j = if 16 * c ≤ j ∧ j < 16 * c + L.length then L.getD (j - 16 * c).toNat 0 else I (o + 5) j) ∧ T1 = T ∧ N1 = N ∧ R1 = R ∧ z1 = z) 12 [vR o, vI c, vI x] [] T N J R z 0 0 := by
    intro n
    induction n with
    | zero =>
      intro x J hn h1 h2 hJ hs hl
      have hx : x = L.length := by omega
      have hrs : (J o 21) = L.length := by rw [hJ o (by omega) (by omega)]; exact hr.1
      refine x_iload_n (pc := 12) hC dX12_laysResult_12 rfl ?_
      refine x_aload_n (pc := 13) hC dX12_laysResult_13 rfl ?_
      refine x_getI (pc := 14) hC gf_X12_210 dX12_laysResult_14 M.1 ?_
      refine x_icmp_ge (pc := 17) hC 43 dX12_laysResult_17 (by decide) (by omega) (by omega) (fun b17 => ?_) (fun b17 => ?_)
      · refine x_vret (pc := 43) hC rfl dX12_laysResult_43 ?_
        exact ⟨⟨rfl, hJ, hs, by rw [hx] at hl; exact hl⟩, rfl, rfl, rfl, rfl⟩
      · omega
    | succ n ih =>
      intro x J hn h1 h2 hJ hs hl
      have hrs : (J o 21) = L.length := by rw [hJ o (by omega) (by omega)]; exact hr.1
      refine x_iload_n (pc := 12) hC dX12_laysResult_12 rfl ?_
      refine x_aload_n (pc := 13) hC dX12_laysResult_13 rfl ?_
      refine x_getI (pc := 14) hC gf_X12_210 dX12_laysResult_14 M.1 ?_
      refine x_icmp_ge (pc := 17) hC 43 dX12_laysResult_17 (by decide) (by omega) (by omega) (fun b17 => ?_) (fun b17 => ?_)
      · refine x_vret (pc := 43) hC rfl dX12_laysResult_43 ?_
        have hx : x = L.length := by omega
        exact ⟨⟨rfl, hJ, hs, by rw [hx] at hl; exact hl⟩, rfl, rfl, rfl, rfl⟩
      · refine x_aload_n (pc := 20) hC dX12_laysResult_20 rfl ?_
        refine x_getO (pc := 21) hC gf_X12_22 dX12_laysResult_21 M.1 (mo_line M).1 ?_
        refine x_bipush (pc := 24) hC dX12_laysResult_24 (by decide) ?_
        refine x_iload_n (pc := 26) hC dX12_laysResult_26 rfl ?_
        refine x_imul (pc := 27) hC dX12_laysResult_27 ?_
        refine x_iload_n (pc := 28) hC dX12_laysResult_28 rfl ?_
        refine x_iadd (pc := 29) hC dX12_laysResult_29 ?_
        refine x_aload_n (pc := 30) hC dX12_laysResult_30 rfl ?_
        refine x_getO (pc := 31) hC gf_X12_52 dX12_laysResult_31 M.1 (mo_result M).1 ?_
        refine x_iload_n (pc := 34) hC dX12_laysResult_34 rfl ?_
        refine x_iald (pc := 35) hC dX12_laysResult_35 (mo_result M).2.1 (by omega) (by rw [(mo_result M).2.2]; omega) ?_
        refine x_iast (pc := 36) hC dX12_laysResult_36 (mo_line M).2.1 (by omega) (by rw [(mo_line M).2.2]; omega) ?_
        refine x_iinc (pc := 37) hC dX12_laysResult_37 rfl ?_
        dsimp only [List.set]
        refine x_goto (pc := 40) hC 12 dX12_laysResult_40 (by decide) ?_
        have hv : J (o + 15) x = L.getD x.toNat 0 := by
          rw [hJ (o + 15) (by omega) (by omega)]
          have h9 := seg_at (f := I (o + 15)) (i := 0) (j := L.length) (k := x) h1 (by omega)
          rw [hr.2, Int.zero_add] at h9
          exact h9.symm
        refine ih (x + 1) _ (by omega) (by omega) (by omega) (fun q a1 a2 => by rw [axu_row a1]; exact hJ q a1 a2) (fun j => by rw [axu_a (by omega)]; exact hs j) (fun j => ?_)
        by_cases hj : j = 16 * c + x
        · rw [hj, axu_s, if_pos (by omega), hv]
          congr 2
          omega
        · rw [axu_j hj, hl j]
          by_cases h9 : 16 * c ≤ j ∧ j < 16 * c + x
          · rw [if_pos h9, if_pos (by omega)]
          · rw [if_neg h9, if_neg (by omega)]
  refine x_aload_n (pc := 0) hC dX12_laysResult_0 rfl ?_
  refine x_getO (pc := 1) hC gf_X12_25 dX12_laysResult_1 M.1 (mo_size M).1 ?_
  refine x_iload_n (pc := 4) hC dX12_laysResult_4 rfl ?_
  refine x_aload_n (pc := 5) hC dX12_laysResult_5 rfl ?_
  refine x_getI (pc := 6) hC gf_X12_210 dX12_laysResult_6 M.1 ?_
  refine x_iast (pc := 9) hC dX12_laysResult_9 (mo_size M).2.1 (by omega) (by rw [(mo_size M).2.2]; omega) ?_
  refine x_iconst (pc := 10) hC dX12_laysResult_10 ?_
  refine x_istore_n (pc := 11) hC dX12_laysResult_11 (Nat.le_of_ble_eq_true rfl) ?_
  dsimp only [List.set]
  refine loop _ 0 _ (Nat.le_refl _) (by omega) (by omega) (fun q a1 a2 => axu_row a2) (fun j => ?_) (fun j => ?_)
  · by_cases hj : j = c
    · rw [hj, axu_s, if_pos rfl]; exact hr.1
    · rw [axu_j hj, if_neg hj]
  · rw [axu_a (by omega), if_neg (by omega)]

set_option maxHeartbeats 4000000 in
set_option maxRecDepth 100000 in
theorem m_isResult {G : ax_G} {T : Nat → Nat} {N : Nat → Int} {I : Nat → Int → Int} {R : Nat → Int → Option Nat} {z o : Nat} (M : axMo T N R o) {c : Int} {L : List Int} (hr : rM I o L) (hl : lnOk I o) (hLn : isLn L) (hc : 0 ≤ c ∧ c < 26) (hL : (L.length : Int) ≤ 160) : axE G YX12_isResult 0 [vR o, vI c] T N I R z (some (vI (bI (seg (rwI I o c) 0 (I (o + 6) c) = L)))) I := by

  refine ax_enter (by decide) (Nat.le_of_ble_eq_true rfl) (ax_cat rfl) (fun f hC => ?_)
  show axX G f 0 0 _ 0 [vR o, vI c, vU, vU] [] T N I R z 0 0
  have hsz := hl.2 c
  have hiff : seg (rwI I o c) 0 (I (o + 6) c) = L ↔ I (o + 6) c = L.length ∧ ∀ k : Int, 0 ≤ k → k < L.length → rwI I o c k = I (o + 15) k := by
    have h1 := seg_eq (f := rwI I o c) (g := I (o + 15)) (i := 0) (j := I (o + 6) c) (i' := 0) (j' := L.length) hsz.1 (by omega)
    rw [hr.2] at h1
    rw [h1]
    simp only [Int.zero_add, Int.sub_zero]
    constructor
    · intro h; exact ⟨h.1, fun k a b => h.2 k a (by omega)⟩
    · intro h; exact ⟨h.1, fun k a b => h.2 k a (by omega)⟩
  have rng : ∀ x : Int, 0 ≤ x → x < L.length → 0 ≤ I (o + 15) x ∧ I (o + 15) x < 100 := fun x a b => hLn _ (by rw [← hr.2, seg_mem]; exact ⟨x, a, b, rfl⟩)
  have hrs := hr.1
  have no : ∀ (x : Int), ¬ seg (rwI I o c) 0 (I (o + 6) c) = L → 0 ≤ x → x ≤ 160 → axX G f 0 0 (fun r1 T1 N1 I1 R1 z1 => r1 = some (vI (bI (seg (rwI I o c) 0 (I (o + 6) c) = L))) ∧ T1 = T ∧ N1 = N ∧ I1 = I ∧ R1 = R ∧ z1 = z) 21 [vR o, vI c, vI 0, vI x] [] T N I R z 0 0 := by
    intro x hne h0 h1
    refine x_iload_n (pc := 21) hC dX12_isResult_21 rfl ?_
    refine x_aload_n (pc := 22) hC dX12_isResult_22 rfl ?_
    refine x_getI (pc := 23) hC gf_X12_210 dX12_isResult_23 M.1 ?_
    refine x_icmp_ge (pc := 26) hC 65 dX12_isResult_26 (by decide) (by omega) (by omega) (fun b26 => ?_) (fun b26 => ?_)
    · refine x_iload_n (pc := 65) hC dX12_isResult_65 rfl ?_
      refine x_zret (pc := 66) hC rfl dX12_isResult_66 (Or.inl rfl) ?_
      exact ⟨by rw [bI_f hne], rfl, rfl, rfl, rfl, rfl⟩
    · refine x_iload_n (pc := 29) hC dX12_isResult_29 rfl ?_
      refine x_if_eq (pc := 30) hC 65 dX12_isResult_30 (by decide) (by omega) (fun b30 => ?_) (fun b30 => ?_)
      · refine x_iload_n (pc := 65) hC dX12_isResult_65 rfl ?_
        refine x_zret (pc := 66) hC rfl dX12_isResult_66 (Or.inl rfl) ?_
        exact ⟨by rw [bI_f hne], rfl, rfl, rfl, rfl, rfl⟩
      · exact absurd rfl (by assumption)
  have loop : I (o + 6) c = L.length → ∀ (n : Nat) (x : Int), (L.length - x).toNat ≤ n → 0 ≤ x → x ≤ L.length → (∀ k, 0 ≤ k → k < x → rwI I o c k = I (o + 15) k) → axX G f 0 0 (fun r1 T1 N1 I1 R1 z1 => r1 = some (vI (bI (seg (rwI I o c) 0 (I (o + 6) c) = L))) ∧ T1 = T ∧ N1 = N ∧ I1 = I ∧ R1 = R ∧ z1 = z) 21 [vR o, vI c, vI 1, vI x] [] T N I R z 0 0 := by
    intro hlen n
    induction n with
    | zero =>
      intro x hn h0 h1 hk
      refine x_iload_n (pc := 21) hC dX12_isResult_21 rfl ?_
      refine x_aload_n (pc := 22) hC dX12_isResult_22 rfl ?_
      refine x_getI (pc := 23) hC gf_X12_210 dX12_isResult_23 M.1 ?_
      refine x_icmp_ge (pc := 26) hC 65 dX12_isResult_26 (by decide) (by omega) (by omega) (fun b26 => ?_) (fun b26 => ?_)
      · refine x_iload_n (pc := 65) hC dX12_isResult_65 rfl ?_
        refine x_zret (pc := 66) hC rfl dX12_isResult_66 (Or.inr rfl) ?_
        exact ⟨by rw [bI_t (hiff.mpr ⟨hlen, fun k a1 a2 => hk k a1 (by omega)⟩)], rfl, rfl, rfl, rfl, rfl⟩
      · omega
    | succ n ih =>
      intro x hn h0 h1 hk
      have hl1 := hl.1 (16 * c + x)
      refine x_iload_n (pc := 21) hC dX12_isResult_21 rfl ?_
      refine x_aload_n (pc := 22) hC dX12_isResult_22 rfl ?_
      refine x_getI (pc := 23) hC gf_X12_210 dX12_isResult_23 M.1 ?_
      refine x_icmp_ge (pc := 26) hC 65 dX12_isResult_26 (by decide) (by omega) (by omega) (fun b26 => ?_) (fun b26 => ?_)
      · refine x_iload_n (pc := 65) hC dX12_isResult_65 rfl ?_
        refine x_zret (pc := 66) hC rfl dX12_isResult_66 (Or.inr rfl) ?_
        exact ⟨by rw [bI_t (hiff.mpr ⟨hlen, fun k a1 a2 => hk k a1 (by omega)⟩)], rfl, rfl, rfl, rfl, rfl⟩
      · refine x_iload_n (pc := 29) hC dX12_isResult_29 rfl ?_
        refine x_if_eq (pc := 30) hC 65 dX12_isResult_30 (by decide) (by decide) (fun b30 => absurd b30 (by decide)) (fun _ => ?_)
        have hr2 := rng x h0 (by omega)
        refine x_aload_n (pc := 33) hC dX12_isResult_33 rfl ?_
        refine x_getO (pc := 34) hC gf_X12_22 dX12_isResult_34 M.1 (mo_line M).1 ?_
        refine x_bipush (pc := 37) hC dX12_isResult_37 (by decide) ?_
        refine x_iload_n (pc := 39) hC dX12_isResult_39 rfl ?_
        refine x_imul (pc := 40) hC dX12_isResult_40 ?_
        refine x_iload_n (pc := 41) hC dX12_isResult_41 rfl ?_
        refine x_iadd (pc := 42) hC dX12_isResult_42 ?_
        refine x_iald (pc := 43) hC dX12_isResult_43 (mo_line M).2.1 (by omega) (by rw [(mo_line M).2.2]; omega) ?_
        refine x_aload_n (pc := 44) hC dX12_isResult_44 rfl ?_
        refine x_getO (pc := 45) hC gf_X12_52 dX12_isResult_45 M.1 (mo_result M).1 ?_
        refine x_iload_n (pc := 48) hC dX12_isResult_48 rfl ?_
        refine x_iald (pc := 49) hC dX12_isResult_49 (mo_result M).2.1 (by omega) (by rw [(mo_result M).2.2]; omega) ?_
        refine x_icmp_ne (pc := 50) hC 57 dX12_isResult_50 (by decide) (by omega) (by omega) (fun b50 => ?_) (fun b50 => ?_)
        · refine x_iconst (pc := 57) hC dX12_isResult_57 ?_
          refine x_istore_n (pc := 58) hC dX12_isResult_58 (Nat.le_of_ble_eq_true rfl) ?_
          dsimp only [List.set]
          refine x_iinc (pc := 59) hC dX12_isResult_59 rfl ?_
          dsimp only [List.set]
          refine x_goto (pc := 62) hC 21 dX12_isResult_62 (by decide) ?_
          first
          | (refine ih (x + 1) (by omega) (by omega) (by omega) (fun k a1 a2 => ?_)
             by_cases hkx : k = x
             · rw [hkx]; assumption
             · exact hk k a1 (by omega))
          | exact no (x + 1) (fun he => absurd ((hiff.mp he).2 x h0 (by omega)) (by assumption)) (by omega) (by omega)
        · refine x_iconst (pc := 53) hC dX12_isResult_53 ?_
          refine x_goto (pc := 54) hC 58 dX12_isResult_54 (by decide) ?_
          refine x_istore_n (pc := 58) hC dX12_isResult_58 (Nat.le_of_ble_eq_true rfl) ?_
          dsimp only [List.set]
          refine x_iinc (pc := 59) hC dX12_isResult_59 rfl ?_
          dsimp only [List.set]
          refine x_goto (pc := 62) hC 21 dX12_isResult_62 (by decide) ?_
          first
          | (refine ih (x + 1) (by omega) (by omega) (by omega) (fun k a1 a2 => ?_)
             by_cases hkx : k = x
             · rw [hkx]; assumption
             · exact hk k a1 (by omega))
          | exact no (x + 1) (fun he => absurd ((hiff.mp he).2 x h0 (by omega)) (by assumption)) (by omega) (by omega)
  refine x_aload_n (pc := 0) hC dX12_isResult_0 rfl ?_
  refine x_getO (pc := 1) hC gf_X12_25 dX12_isResult_1 M.1 (mo_size M).1 ?_
  refine x_iload_n (pc := 4) hC dX12_isResult_4 rfl ?_
  refine x_iald (pc := 5) hC dX12_isResult_5 (mo_size M).2.1 (by omega) (by rw [(mo_size M).2.2]; omega) ?_
  refine x_aload_n (pc := 6) hC dX12_isResult_6 rfl ?_
  refine x_getI (pc := 7) hC gf_X12_210 dX12_isResult_7 M.1 ?_
  refine x_icmp_ne (pc := 10) hC 17 dX12_isResult_10 (by decide) (by omega) (by omega) (fun b10 => ?_) (fun b10 => ?_)
  · refine x_iconst (pc := 17) hC dX12_isResult_17 ?_
    refine x_istore_n (pc := 18) hC dX12_isResult_18 (Nat.le_of_ble_eq_true rfl) ?_
    dsimp only [List.set]
    refine x_iconst (pc := 19) hC dX12_isResult_19 ?_
    refine x_istore_n (pc := 20) hC dX12_isResult_20 (Nat.le_of_ble_eq_true rfl) ?_
    dsimp only [List.set]
    first
    | exact loop (by omega) _ 0 (Nat.le_refl _) (by omega) (by omega) (fun k a1 a2 => by omega)
    | exact no 0 (fun he => absurd (hiff.mp he).1 (by omega)) (by omega) (by omega)
  · refine x_iconst (pc := 13) hC dX12_isResult_13 ?_
    refine x_goto (pc := 14) hC 18 dX12_isResult_14 (by decide) ?_
    refine x_istore_n (pc := 18) hC dX12_isResult_18 (Nat.le_of_ble_eq_true rfl) ?_
    dsimp only [List.set]
    refine x_iconst (pc := 19) hC dX12_isResult_19 ?_
    refine x_istore_n (pc := 20) hC dX12_isResult_20 (Nat.le_of_ble_eq_true rfl) ?_
    dsimp only [List.set]
    first
    | exact loop (by omega) _ 0 (Nat.le_refl _) (by omega) (by omega) (fun k a1 a2 => by omega)
    | exact no 0 (fun he => absurd (hiff.mp he).1 (by omega)) (by omega) (by omega)

