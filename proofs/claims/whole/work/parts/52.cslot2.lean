/-! THE CLASS: slots, 2 -/
/-- the fault of reading a slot as bytes -/
def fbR (I : Nat → Int → Int) (R : Nat → Int → Option Nat) (s : Nat) : Int := if R s 0 = none ∧ R s 2 = none then 1 else if R s 0 ≠ none ∧ I s 1 = 1 then 0 else 2
/-- the fault of an element of a slot -/
def feR (N : Nat → Int) (R : Nat → Int → Option Nat) (s : Nat) (i : Int) : Int := match R s 0 with
  | none => if R s 2 = none then 1 else 2
  | some r => if 0 ≤ i ∧ i < N r then 0 else 3

set_option maxHeartbeats 4000000 in
set_option maxRecDepth 100000 in
theorem c_faultAsBytes {G : ax_G} {T : Nat → Nat} {N : Nat → Int} {I : Nat → Int → Int} {R : Nat → Int → Option Nat} {z : Nat} {s : Nat} (hs : T s = 9) (hn : I s 1 = 0 ∨ I s 1 = 1) (hc : ∀ q, R s 2 = some q → pT (T q)) : axE G YX9_faultAsBytes 1 [vR s] T N I R z (some (vI (fbR I R s))) I := by

  refine ax_enter (by decide) (Nat.le_of_ble_eq_true rfl) (ax_cat rfl) (fun f hC => ?_)
  show axX G f 0 0 _ 0 [vR s] [] T N I R z 0 0
  have : Decidable (osP T I R s 0) := Classical.propDecidable _
  have e0 : osP T I R s 0 ↔ R s 0 ≠ none ∧ I s 1 = 1 := by unfold osP; rw [if_pos rfl]
  refine x_aload_n (pc := 0) hC dX9_faultAsBytes_0 rfl ?_
  refine x_mV (pc := 1) hC cv_X9_27 dX9_faultAsBytes_1 (c_isEmpty hs) hs rfl (by decide) rfl rfl (Nat.le_of_ble_eq_true rfl) ?_
  dsimp only [Option.toList, List.cons_append, List.nil_append]
  refine x_ifB_eq (pc := 4) hC 9 dX9_faultAsBytes_4 (by decide) (fun b4 => ?_) (fun b4 => ?_)
  · refine x_aload_n (pc := 9) hC dX9_faultAsBytes_9 rfl ?_
    refine x_iconst (pc := 10) hC dX9_faultAsBytes_10 ?_
    refine x_mV (pc := 11) hC cv_X9_31 dX9_faultAsBytes_11 (c_isOfSort hs hn (by omega) hc) hs rfl (by decide) rfl rfl (Nat.le_of_ble_eq_true rfl) ?_
    dsimp only [Option.toList, List.cons_append, List.nil_append]
    refine x_ifB_eq (pc := 14) hC 21 dX9_faultAsBytes_14 (by decide) (fun b14 => ?_) (fun b14 => ?_)
    · refine x_iconst (pc := 21) hC dX9_faultAsBytes_21 ?_
      refine x_iret (pc := 22) hC rfl dX9_faultAsBytes_22 ?_
      refine ⟨?_, rfl, rfl, rfl, rfl, rfl⟩
      unfold fbR
      first
      | (rw [if_pos b4]; done)
      | (rw [if_neg b4, if_pos (e0.mp b14)]; done)
      | (rw [if_neg b4, if_neg (fun h => b14 (e0.mpr h))]; done)
    · refine x_iconst (pc := 17) hC dX9_faultAsBytes_17 ?_
      refine x_goto (pc := 18) hC 22 dX9_faultAsBytes_18 (by decide) ?_
      refine x_iret (pc := 22) hC rfl dX9_faultAsBytes_22 ?_
      refine ⟨?_, rfl, rfl, rfl, rfl, rfl⟩
      unfold fbR
      first
      | (rw [if_pos b4]; done)
      | (rw [if_neg b4, if_pos (e0.mp b14)]; done)
      | (rw [if_neg b4, if_neg (fun h => b14 (e0.mpr h))]; done)
  · refine x_iconst (pc := 7) hC dX9_faultAsBytes_7 ?_
    refine x_iret (pc := 8) hC rfl dX9_faultAsBytes_8 ?_
    refine ⟨?_, rfl, rfl, rfl, rfl, rfl⟩
    unfold fbR
    first
    | (rw [if_pos b4]; done)
    | (rw [if_neg b4, if_pos (e0.mp b14)]; done)
    | (rw [if_neg b4, if_neg (fun h => b14 (e0.mpr h))]; done)

set_option maxHeartbeats 4000000 in
set_option maxRecDepth 100000 in
theorem c_faultAtElement {G : ax_G} {T : Nat → Nat} {N : Nat → Int} {I : Nat → Int → Int} {R : Nat → Int → Option Nat} {z : Nat} {s : Nat} {i : Int} (hs : T s = 9) (hi : ax_r i) (hr : ∀ r, R s 0 = some r → T r = 13 ∧ 0 ≤ N r ∧ N r ≤ 100000) : axE G YX9_faultAtElement 1 [vR s, vI i] T N I R z (some (vI (feR N R s i))) I := by

  refine ax_enter (by decide) (Nat.le_of_ble_eq_true rfl) (ax_cat rfl) (fun f hC => ?_)
  show axX G f 0 0 _ 0 [vR s, vI i] [] T N I R z 0 0
  refine x_aload_n (pc := 0) hC dX9_faultAtElement_0 rfl ?_
  refine x_mV (pc := 1) hC cv_X9_27 dX9_faultAtElement_1 (c_isEmpty hs) hs rfl (by decide) rfl rfl (Nat.le_of_ble_eq_true rfl) ?_
  dsimp only [Option.toList, List.cons_append, List.nil_append]
  refine x_ifB_eq (pc := 4) hC 9 dX9_faultAtElement_4 (by decide) (fun b4 => ?_) (fun b4 => ?_)
  · rcases hit : R s 0 with _ | r
    · refine x_aload_n (pc := 9) hC dX9_faultAtElement_9 rfl ?_
      refine x_getO (pc := 10) hC gf_X9_9 dX9_faultAtElement_10 hs hit ?_
      refine x_ifnonnull (pc := 13) hC 18 dX9_faultAtElement_13 (by decide) (fun _ h => by cases h) (fun _ => ?_)
      refine x_iconst (pc := 16) hC dX9_faultAtElement_16 ?_
      refine x_iret (pc := 17) hC rfl dX9_faultAtElement_17 ?_
      refine ⟨?_, rfl, rfl, rfl, rfl, rfl⟩
      unfold feR
      rw [hit]
      dsimp only
      rw [if_neg (fun h => b4 ⟨hit, h⟩)]
    · obtain ⟨hr1, hr2⟩ := hr r hit
      have hfe : feR N R s i = if 0 ≤ i ∧ i < N r then 0 else 3 := by unfold feR; rw [hit]
      refine x_aload_n (pc := 9) hC dX9_faultAtElement_9 rfl ?_
      refine x_getO (pc := 10) hC gf_X9_9 dX9_faultAtElement_10 hs hit ?_
      refine x_ifnonnull (pc := 13) hC 18 dX9_faultAtElement_13 (by decide) (fun _ _ => ?_) (fun h => by cases h)
      refine x_iload_n (pc := 18) hC dX9_faultAtElement_18 rfl ?_
      refine x_if_lt (pc := 19) hC 35 dX9_faultAtElement_19 (by decide) (by omega) (fun b19 => ?_) (fun b19 => ?_)
      · refine x_iconst (pc := 35) hC dX9_faultAtElement_35 ?_
        refine x_iret (pc := 36) hC rfl dX9_faultAtElement_36 ?_
        refine ⟨?_, rfl, rfl, rfl, rfl, rfl⟩
        rw [hfe]
        first
        | (rw [if_pos (by omega)]; done)
        | (rw [if_neg (by omega)]; done)
      · refine x_iload_n (pc := 22) hC dX9_faultAtElement_22 rfl ?_
        refine x_aload_n (pc := 23) hC dX9_faultAtElement_23 rfl ?_
        refine x_getO (pc := 24) hC gf_X9_9 dX9_faultAtElement_24 hs hit ?_
        refine x_alen (pc := 27) hC dX9_faultAtElement_27 (by rw [hr1]; decide) (by rw [hr1]; decide) ?_
        refine x_icmp_ge (pc := 28) hC 35 dX9_faultAtElement_28 (by decide) (by omega) (by omega) (fun b28 => ?_) (fun b28 => ?_)
        · refine x_iconst (pc := 35) hC dX9_faultAtElement_35 ?_
          refine x_iret (pc := 36) hC rfl dX9_faultAtElement_36 ?_
          refine ⟨?_, rfl, rfl, rfl, rfl, rfl⟩
          rw [hfe]
          first
          | (rw [if_pos (by omega)]; done)
          | (rw [if_neg (by omega)]; done)
        · refine x_iconst (pc := 31) hC dX9_faultAtElement_31 ?_
          refine x_goto (pc := 32) hC 36 dX9_faultAtElement_32 (by decide) ?_
          refine x_iret (pc := 36) hC rfl dX9_faultAtElement_36 ?_
          refine ⟨?_, rfl, rfl, rfl, rfl, rfl⟩
          rw [hfe]
          first
          | (rw [if_pos (by omega)]; done)
          | (rw [if_neg (by omega)]; done)
  · refine x_iconst (pc := 7) hC dX9_faultAtElement_7 ?_
    refine x_iret (pc := 8) hC rfl dX9_faultAtElement_8 ?_
    refine ⟨?_, rfl, rfl, rfl, rfl, rfl⟩
    unfold feR
    rw [b4.1]
    dsimp only
    rw [if_pos b4.2]

set_option maxHeartbeats 4000000 in
set_option maxRecDepth 100000 in
theorem c_holdsLines {G : ax_G} {T : Nat → Nat} {N : Nat → Int} {I : Nat → Int → Int} {R : Nat → Int → Option Nat} {z : Nat} {s r : Nat} {m : Int} (hs : T s = 9) (hit : R s 0 = some r) (hr1 : T r = 13) (hr2 : 0 ≤ N r ∧ N r ≤ 100000) (hm : ax_r m) (hv : ∀ j, 0 ≤ j → j < N r → ax_r (I r j)) [Decidable (N r ≤ m ∧ ∀ j, 0 ≤ j → j < N r → 0 ≤ I r j ∧ I r j < 100)] : axE G YX9_holdsLines 0 [vR s, vI m] T N I R z (some (vI (bI (N r ≤ m ∧ ∀ j, 0 ≤ j → j < N r → 0 ≤ I r j ∧ I r j < 100)))) I := by

  refine ax_enter (by decide) (Nat.le_of_ble_eq_true rfl) (ax_cat rfl) (fun f hC => ?_)
  show axX G f 0 0 _ 0 [vR s, vI m, vU] [] T N I R z 0 0
  have loop : N r ≤ m → ∀ (n : Nat) (x : Int), (N r - x).toNat ≤ n → 0 ≤ x → x ≤ N r → (∀ j, 0 ≤ j → j < x → 0 ≤ I r j ∧ I r j < 100) → axX G f 0 0 (fun r1 T1 N1 I1 R1 z1 => r1 = some (vI (bI (N r ≤ m ∧ ∀ j, 0 ≤ j → j < N r → 0 ≤ I r j ∧ I r j < 100))) ∧ T1 = T ∧ N1 = N ∧ I1 = I ∧ R1 = R ∧ z1 = z) 20 [vR s, vI m, vI x] [] T N I R z 0 0 := by
    intro hNm n
    induction n with
    | zero =>
      intro x hn h0 h1 hx
      refine x_iload_n (pc := 20) hC dX9_holdsLines_20 rfl ?_
      refine x_aload_n (pc := 21) hC dX9_holdsLines_21 rfl ?_
      refine x_getO (pc := 22) hC gf_X9_9 dX9_holdsLines_22 hs hit ?_
      refine x_alen (pc := 25) hC dX9_holdsLines_25 (by rw [hr1]; decide) (by rw [hr1]; decide) ?_
      refine x_icmp_ge (pc := 26) hC 57 dX9_holdsLines_26 (by decide) (by omega) (by omega) (fun b26 => ?_) (fun b26 => ?_)
      · refine x_iconst (pc := 57) hC dX9_holdsLines_57 ?_
        refine x_zret (pc := 58) hC rfl dX9_holdsLines_58 (Or.inr rfl) ?_
        refine ⟨?_, rfl, rfl, rfl, rfl, rfl⟩
        rw [bI_t ⟨hNm, fun j a1 a2 => hx j a1 (by omega)⟩]
      · omega
    | succ n ih =>
      intro x hn h0 h1 hx
      have hvx : x < N r → ax_r (I r x) := fun h => hv x h0 h
      refine x_iload_n (pc := 20) hC dX9_holdsLines_20 rfl ?_
      refine x_aload_n (pc := 21) hC dX9_holdsLines_21 rfl ?_
      refine x_getO (pc := 22) hC gf_X9_9 dX9_holdsLines_22 hs hit ?_
      refine x_alen (pc := 25) hC dX9_holdsLines_25 (by rw [hr1]; decide) (by rw [hr1]; decide) ?_
      refine x_icmp_ge (pc := 26) hC 57 dX9_holdsLines_26 (by decide) (by omega) (by omega) (fun b26 => ?_) (fun b26 => ?_)
      · refine x_iconst (pc := 57) hC dX9_holdsLines_57 ?_
        refine x_zret (pc := 58) hC rfl dX9_holdsLines_58 (Or.inr rfl) ?_
        refine ⟨?_, rfl, rfl, rfl, rfl, rfl⟩
        rw [bI_t ⟨hNm, fun j a1 a2 => hx j a1 (by omega)⟩]
      · have hvx2 := hvx (by omega)
        refine x_aload_n (pc := 29) hC dX9_holdsLines_29 rfl ?_
        refine x_getO (pc := 30) hC gf_X9_9 dX9_holdsLines_30 hs hit ?_
        refine x_iload_n (pc := 33) hC dX9_holdsLines_33 rfl ?_
        refine x_iald (pc := 34) hC dX9_holdsLines_34 hr1 (by omega) (by omega) ?_
        refine x_if_lt (pc := 35) hC 49 dX9_holdsLines_35 (by decide) hvx2 (fun b35 => ?_) (fun b35 => ?_)
        · refine x_iconst (pc := 49) hC dX9_holdsLines_49 ?_
          refine x_zret (pc := 50) hC rfl dX9_holdsLines_50 (Or.inl rfl) ?_
          refine ⟨?_, rfl, rfl, rfl, rfl, rfl⟩
          rw [bI_f (fun h => by have := h.2 x h0 (by omega); omega)]
        · refine x_aload_n (pc := 38) hC dX9_holdsLines_38 rfl ?_
          refine x_getO (pc := 39) hC gf_X9_9 dX9_holdsLines_39 hs hit ?_
          refine x_iload_n (pc := 42) hC dX9_holdsLines_42 rfl ?_
          refine x_iald (pc := 43) hC dX9_holdsLines_43 hr1 (by omega) (by omega) ?_
          refine x_bipush (pc := 44) hC dX9_holdsLines_44 (by decide) ?_
          refine x_icmp_lt (pc := 46) hC 51 dX9_holdsLines_46 (by decide) hvx2 (by omega) (fun b46 => ?_) (fun b46 => ?_)
          · refine x_iinc (pc := 51) hC dX9_holdsLines_51 rfl ?_
            dsimp only [List.set]
            refine x_goto (pc := 54) hC 20 dX9_holdsLines_54 (by decide) ?_
            exact ih (x + 1) (by omega) (by omega) (by omega) (fun j a1 a2 => (Decidable.em (j = x)).elim (fun hj => by rw [hj]; omega) (fun hj => hx j a1 (by omega)))
          · refine x_iconst (pc := 49) hC dX9_holdsLines_49 ?_
            refine x_zret (pc := 50) hC rfl dX9_holdsLines_50 (Or.inl rfl) ?_
            refine ⟨?_, rfl, rfl, rfl, rfl, rfl⟩
            rw [bI_f (fun h => by have := h.2 x h0 (by omega); omega)]
  refine x_aload_n (pc := 0) hC dX9_holdsLines_0 rfl ?_
  refine x_getO (pc := 1) hC gf_X9_9 dX9_holdsLines_1 hs hit ?_
  refine x_ifnull (pc := 4) hC 16 dX9_holdsLines_4 (by decide) (fun h => by cases h) (fun _ _ => ?_)
  refine x_aload_n (pc := 7) hC dX9_holdsLines_7 rfl ?_
  refine x_getO (pc := 8) hC gf_X9_9 dX9_holdsLines_8 hs hit ?_
  refine x_alen (pc := 11) hC dX9_holdsLines_11 (by rw [hr1]; decide) (by rw [hr1]; decide) ?_
  refine x_iload_n (pc := 12) hC dX9_holdsLines_12 rfl ?_
  refine x_icmp_le (pc := 13) hC 18 dX9_holdsLines_13 (by decide) (by omega) (by omega) (fun b13 => ?_) (fun b13 => ?_)
  · refine x_iconst (pc := 18) hC dX9_holdsLines_18 ?_
    refine x_istore_n (pc := 19) hC dX9_holdsLines_19 (Nat.le_of_ble_eq_true rfl) ?_
    dsimp only [List.set]
    exact loop (by omega) _ 0 (Nat.le_refl _) (by omega) hr2.1 (fun j a1 a2 => by omega)
  · refine x_iconst (pc := 16) hC dX9_holdsLines_16 ?_
    refine x_zret (pc := 17) hC rfl dX9_holdsLines_17 (Or.inl rfl) ?_
    refine ⟨?_, rfl, rfl, rfl, rfl, rfl⟩
    rw [bI_f (fun h => by have := h.1; omega)]

