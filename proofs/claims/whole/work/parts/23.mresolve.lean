set_option maxHeartbeats 4000000 in
set_option maxRecDepth 100000 in
theorem m_resolutionOf {G : ax_G} {T : Nat → Nat} {N : Nat → Int} {I : Nat → Int → Int} {R : Nat → Int → Option Nat} {z o : Nat} (M : axMo T N R o) {s : List Int × List Int} (hR : miR I o) (hf : (I o 29) = 0 ∨ (I o 29) = 1) (hs : shM I o ((I o 29)) s) (hsz : (I o 28) = s.1.length) (hl : s.1.length ≤ 51) (hr : ∀ v ∈ s.1, 0 ≤ v ∧ v ≤ 48) : axEx G YX12_resolutionOf 0 [vR o] T N I R z (fun r1 I1 => ∃ k : Int, r1 = some (vI k) ∧ I1 = I ∧ ((k = -9 ∧ rfind (rsL I o) s.1 = none) ∨ (0 ≤ k ∧ k < (I o 30) ∧ rsK I o k = s.1 ∧ rfind (rsL I o) s.1 = some (rsK I o k, rsW I o k)))) := by

  refine ax_enter (by decide) (Nat.le_of_ble_eq_true rfl) (ax_cat rfl) (fun f hC => ?_)
  show axX G f 0 0 _ 0 [vR o, vU, vU, vU] [] T N I R z 0 0
  obtain ⟨⟨hn0, hn8⟩, hkn, hks, hrw, hrs, hrk⟩ := hR
  have rng : ∀ x : Int, 0 ≤ x → x < s.1.length → 0 ≤ I (o + 17) (51 * (I o 29) + x) ∧ I (o + 17) (51 * (I o 29) + x) ≤ 48 := fun x a b => hr _ (by rw [← hs.1, seg_mem]; exact ⟨51 * (I o 29) + x, by omega, by omega, rfl⟩)
  have eqv : ∀ k : Int, rsK I o k = s.1 ↔ I (o + 21) k = s.1.length ∧ ∀ x : Int, 0 ≤ x → x < s.1.length → I (o + 20) (51 * k + x) = I (o + 17) (51 * (I o 29) + x) := by
    intro k
    have hk := hks k
    have h1 := seg_eq (f := I (o + 20)) (g := I (o + 17)) (i := 51 * k) (j := 51 * k + I (o + 21) k) (i' := 51 * (I o 29)) (j' := 51 * (I o 29) + s.1.length) (by omega) (by omega)
    rw [hs.1] at h1
    unfold rsK
    rw [h1]
    constructor
    · intro h; exact ⟨by omega, fun x a b => h.2 x a (by omega)⟩
    · intro h; exact ⟨by omega, fun x a b => h.2 x a (by omega)⟩
  have outer : ∀ (n k : Nat) (c2 c3 : ax_V), ((I o 30) - k).toNat ≤ n → (k : Int) ≤ (I o 30) → (∀ j : Nat, j < k → rsK I o j ≠ s.1) → axX G f 0 0 (fun r1 T1 N1 I1 R1 z1 => (∃ k : Int, r1 = some (vI k) ∧ I1 = I ∧ ((k = -9 ∧ rfind (rsL I o) s.1 = none) ∨ (0 ≤ k ∧ k < (I o 30) ∧ rsK I o k = s.1 ∧ rfind (rsL I o) s.1 = some (rsK I o k, rsW I o k)))) ∧ T1 = T ∧ N1 = N ∧ R1 = R ∧ z1 = z) 2 [vR o, vI (k : Int), c2, c3] [] T N I R z 0 0 := by
    intro n
    induction n with
    | zero =>
      intro k c2 c3 hn hk hj
      refine x_iload_n (pc := 2) hC dX12_resolutionOf_2 rfl ?_
      refine x_aload_n (pc := 3) hC dX12_resolutionOf_3 rfl ?_
      refine x_getI (pc := 4) hC gf_X12_219 dX12_resolutionOf_4 M.1 ?_
      refine x_icmp_ge (pc := 7) hC 95 dX12_resolutionOf_7 (by decide) (by omega) (by omega) (fun b7 => ?_) (fun b7 => ?_)
      · refine x_bipush (pc := 95) hC dX12_resolutionOf_95 (by decide) ?_
        refine x_iret (pc := 97) hC rfl dX12_resolutionOf_97 ?_
        exact ⟨⟨-9, rfl, rfl, Or.inl ⟨rfl, rfind_none (fun j h => hj j (by omega))⟩⟩, rfl, rfl, rfl, rfl⟩
      · omega
    | succ n ih =>
      intro k c2 c3 hn hk hj
      refine x_iload_n (pc := 2) hC dX12_resolutionOf_2 rfl ?_
      refine x_aload_n (pc := 3) hC dX12_resolutionOf_3 rfl ?_
      refine x_getI (pc := 4) hC gf_X12_219 dX12_resolutionOf_4 M.1 ?_
      refine x_icmp_ge (pc := 7) hC 95 dX12_resolutionOf_7 (by decide) (by omega) (by omega) (fun b7 => ?_) (fun b7 => ?_)
      · refine x_bipush (pc := 95) hC dX12_resolutionOf_95 (by decide) ?_
        refine x_iret (pc := 97) hC rfl dX12_resolutionOf_97 ?_
        exact ⟨⟨-9, rfl, rfl, Or.inl ⟨rfl, rfind_none (fun j h => hj j (by omega))⟩⟩, rfl, rfl, rfl, rfl⟩
      · have hk8 : (k : Int) < 8 := by omega
        have hksk := hks k
        have no : ∀ (x : Int), ¬ rsK I o k = s.1 → 0 ≤ x → x ≤ 51 → axX G f 0 0 (fun r1 T1 N1 I1 R1 z1 => (∃ k : Int, r1 = some (vI k) ∧ I1 = I ∧ ((k = -9 ∧ rfind (rsL I o) s.1 = none) ∨ (0 ≤ k ∧ k < (I o 30) ∧ rsK I o k = s.1 ∧ rfind (rsL I o) s.1 = some (rsK I o k, rsW I o k)))) ∧ T1 = T ∧ N1 = N ∧ R1 = R ∧ z1 = z) 31 [vR o, vI (k : Int), vI 0, vI x] [] T N I R z 0 0 := by
          intro x hne h0 h1
          refine x_iload_n (pc := 31) hC dX12_resolutionOf_31 rfl ?_
          refine x_aload_n (pc := 32) hC dX12_resolutionOf_32 rfl ?_
          refine x_getI (pc := 33) hC gf_X12_230 dX12_resolutionOf_33 M.1 ?_
          refine x_icmp_ge (pc := 36) hC 83 dX12_resolutionOf_36 (by decide) (by omega) (by omega) (fun b36 => ?_) (fun b36 => ?_)
          · refine x_iload_n (pc := 83) hC dX12_resolutionOf_83 rfl ?_
            refine x_if_eq (pc := 84) hC 89 dX12_resolutionOf_84 (by decide) (by decide) (fun _ => ?_) (fun b => absurd rfl b)
            refine x_iinc (pc := 89) hC dX12_resolutionOf_89 rfl ?_
            dsimp only [List.set]
            refine x_goto (pc := 92) hC 2 dX12_resolutionOf_92 (by decide) ?_
            refine ih (k + 1) _ _ (by omega) (by omega) (fun j h => ?_)
            by_cases hjk : j = k
            · rw [hjk]; exact hne
            · exact hj j (by omega)
          · refine x_iload_n (pc := 39) hC dX12_resolutionOf_39 rfl ?_
            refine x_if_eq (pc := 40) hC 83 dX12_resolutionOf_40 (by decide) (by omega) (fun b40 => ?_) (fun b40 => ?_)
            · refine x_iload_n (pc := 83) hC dX12_resolutionOf_83 rfl ?_
              refine x_if_eq (pc := 84) hC 89 dX12_resolutionOf_84 (by decide) (by decide) (fun _ => ?_) (fun b => absurd rfl b)
              refine x_iinc (pc := 89) hC dX12_resolutionOf_89 rfl ?_
              dsimp only [List.set]
              refine x_goto (pc := 92) hC 2 dX12_resolutionOf_92 (by decide) ?_
              refine ih (k + 1) _ _ (by omega) (by omega) (fun j h => ?_)
              by_cases hjk : j = k
              · rw [hjk]; exact hne
              · exact hj j (by omega)
            · exact absurd rfl (by assumption)
        have loop : I (o + 21) k = s.1.length → ∀ (m : Nat) (x : Int), (s.1.length - x).toNat ≤ m → 0 ≤ x → x ≤ s.1.length → (∀ y : Int, 0 ≤ y → y < x → I (o + 20) (51 * k + y) = I (o + 17) (51 * (I o 29) + y)) → axX G f 0 0 (fun r1 T1 N1 I1 R1 z1 => (∃ k : Int, r1 = some (vI k) ∧ I1 = I ∧ ((k = -9 ∧ rfind (rsL I o) s.1 = none) ∨ (0 ≤ k ∧ k < (I o 30) ∧ rsK I o k = s.1 ∧ rfind (rsL I o) s.1 = some (rsK I o k, rsW I o k)))) ∧ T1 = T ∧ N1 = N ∧ R1 = R ∧ z1 = z) 31 [vR o, vI (k : Int), vI 1, vI x] [] T N I R z 0 0 := by
          intro hlen m
          induction m with
          | zero =>
            intro x hm h0 h1 hy
            refine x_iload_n (pc := 31) hC dX12_resolutionOf_31 rfl ?_
            refine x_aload_n (pc := 32) hC dX12_resolutionOf_32 rfl ?_
            refine x_getI (pc := 33) hC gf_X12_230 dX12_resolutionOf_33 M.1 ?_
            refine x_icmp_ge (pc := 36) hC 83 dX12_resolutionOf_36 (by decide) (by omega) (by omega) (fun b36 => ?_) (fun b36 => ?_)
            · refine x_iload_n (pc := 83) hC dX12_resolutionOf_83 rfl ?_
              refine x_if_eq (pc := 84) hC 89 dX12_resolutionOf_84 (by decide) (by decide) (fun b => absurd b (by decide)) (fun _ => ?_)
              refine x_iload_n (pc := 87) hC dX12_resolutionOf_87 rfl ?_
              refine x_iret (pc := 88) hC rfl dX12_resolutionOf_88 ?_
              have he : rsK I o k = s.1 := (eqv k).mpr ⟨hlen, fun y a b => hy y a (by omega)⟩
              exact ⟨⟨k, rfl, rfl, Or.inr ⟨by omega, by omega, he, rfind_some (by omega) hj he⟩⟩, rfl, rfl, rfl, rfl⟩
            · omega
          | succ m ihm =>
            intro x hm h0 h1 hy
            refine x_iload_n (pc := 31) hC dX12_resolutionOf_31 rfl ?_
            refine x_aload_n (pc := 32) hC dX12_resolutionOf_32 rfl ?_
            refine x_getI (pc := 33) hC gf_X12_230 dX12_resolutionOf_33 M.1 ?_
            refine x_icmp_ge (pc := 36) hC 83 dX12_resolutionOf_36 (by decide) (by omega) (by omega) (fun b36 => ?_) (fun b36 => ?_)
            · refine x_iload_n (pc := 83) hC dX12_resolutionOf_83 rfl ?_
              refine x_if_eq (pc := 84) hC 89 dX12_resolutionOf_84 (by decide) (by decide) (fun b => absurd b (by decide)) (fun _ => ?_)
              refine x_iload_n (pc := 87) hC dX12_resolutionOf_87 rfl ?_
              refine x_iret (pc := 88) hC rfl dX12_resolutionOf_88 ?_
              have he : rsK I o k = s.1 := (eqv k).mpr ⟨hlen, fun y a b => hy y a (by omega)⟩
              exact ⟨⟨k, rfl, rfl, Or.inr ⟨by omega, by omega, he, rfind_some (by omega) hj he⟩⟩, rfl, rfl, rfl, rfl⟩
            · refine x_iload_n (pc := 39) hC dX12_resolutionOf_39 rfl ?_
              refine x_if_eq (pc := 40) hC 83 dX12_resolutionOf_40 (by decide) (by decide) (fun b => absurd b (by decide)) (fun _ => ?_)
              have hr1 := rng x h0 (by omega)
              have hr2 := hkn (51 * k + x)
              refine x_aload_n (pc := 43) hC dX12_resolutionOf_43 rfl ?_
              refine x_getO (pc := 44) hC gf_X12_67 dX12_resolutionOf_44 M.1 (mo_known M).1 ?_
              refine x_bipush (pc := 47) hC dX12_resolutionOf_47 (by decide) ?_
              refine x_iload_n (pc := 49) hC dX12_resolutionOf_49 rfl ?_
              refine x_imul (pc := 50) hC dX12_resolutionOf_50 ?_
              refine x_iload_n (pc := 51) hC dX12_resolutionOf_51 rfl ?_
              refine x_iadd (pc := 52) hC dX12_resolutionOf_52 ?_
              refine x_iald (pc := 53) hC dX12_resolutionOf_53 (mo_known M).2.1 (by omega) (by rw [(mo_known M).2.2]; omega) ?_
              refine x_aload_n (pc := 54) hC dX12_resolutionOf_54 rfl ?_
              refine x_getO (pc := 55) hC gf_X12_58 dX12_resolutionOf_55 M.1 (mo_shape M).1 ?_
              refine x_bipush (pc := 58) hC dX12_resolutionOf_58 (by decide) ?_
              refine x_aload_n (pc := 60) hC dX12_resolutionOf_60 rfl ?_
              refine x_getI (pc := 61) hC gf_X12_233 dX12_resolutionOf_61 M.1 ?_
              refine x_imul (pc := 64) hC dX12_resolutionOf_64 ?_
              refine x_iload_n (pc := 65) hC dX12_resolutionOf_65 rfl ?_
              refine x_iadd (pc := 66) hC dX12_resolutionOf_66 ?_
              refine x_iald (pc := 67) hC dX12_resolutionOf_67 (mo_shape M).2.1 (by omega) (by rw [(mo_shape M).2.2]; omega) ?_
              refine x_icmp_ne (pc := 68) hC 75 dX12_resolutionOf_68 (by decide) (by omega) (by omega) (fun b68 => ?_) (fun b68 => ?_)
              · refine x_iconst (pc := 75) hC dX12_resolutionOf_75 ?_
                refine x_istore_n (pc := 76) hC dX12_resolutionOf_76 (Nat.le_of_ble_eq_true rfl) ?_
                dsimp only [List.set]
                refine x_iinc (pc := 77) hC dX12_resolutionOf_77 rfl ?_
                dsimp only [List.set]
                refine x_goto (pc := 80) hC 31 dX12_resolutionOf_80 (by decide) ?_
                first
                | (refine ihm (x + 1) (by omega) (by omega) (by omega) (fun y a b => ?_)
                   by_cases hyx : y = x
                   · rw [hyx]; assumption
                   · exact hy y a (by omega))
                | exact no (x + 1) (fun he => absurd (((eqv k).mp he).2 x h0 (by omega)) (by assumption)) (by omega) (by omega)
              · refine x_iconst (pc := 71) hC dX12_resolutionOf_71 ?_
                refine x_goto (pc := 72) hC 76 dX12_resolutionOf_72 (by decide) ?_
                refine x_istore_n (pc := 76) hC dX12_resolutionOf_76 (Nat.le_of_ble_eq_true rfl) ?_
                dsimp only [List.set]
                refine x_iinc (pc := 77) hC dX12_resolutionOf_77 rfl ?_
                dsimp only [List.set]
                refine x_goto (pc := 80) hC 31 dX12_resolutionOf_80 (by decide) ?_
                first
                | (refine ihm (x + 1) (by omega) (by omega) (by omega) (fun y a b => ?_)
                   by_cases hyx : y = x
                   · rw [hyx]; assumption
                   · exact hy y a (by omega))
                | exact no (x + 1) (fun he => absurd (((eqv k).mp he).2 x h0 (by omega)) (by assumption)) (by omega) (by omega)
        refine x_aload_n (pc := 10) hC dX12_resolutionOf_10 rfl ?_
        refine x_getO (pc := 11) hC gf_X12_70 dX12_resolutionOf_11 M.1 (mo_knownSize M).1 ?_
        refine x_iload_n (pc := 14) hC dX12_resolutionOf_14 rfl ?_
        refine x_iald (pc := 15) hC dX12_resolutionOf_15 (mo_knownSize M).2.1 (by omega) (by rw [(mo_knownSize M).2.2]; omega) ?_
        refine x_aload_n (pc := 16) hC dX12_resolutionOf_16 rfl ?_
        refine x_getI (pc := 17) hC gf_X12_230 dX12_resolutionOf_17 M.1 ?_
        refine x_icmp_ne (pc := 20) hC 27 dX12_resolutionOf_20 (by decide) (by omega) (by omega) (fun b20 => ?_) (fun b20 => ?_)
        · refine x_iconst (pc := 27) hC dX12_resolutionOf_27 ?_
          refine x_istore_n (pc := 28) hC dX12_resolutionOf_28 (Nat.le_of_ble_eq_true rfl) ?_
          dsimp only [List.set]
          refine x_iconst (pc := 29) hC dX12_resolutionOf_29 ?_
          refine x_istore_n (pc := 30) hC dX12_resolutionOf_30 (Nat.le_of_ble_eq_true rfl) ?_
          dsimp only [List.set]
          first
          | exact loop (by omega) _ 0 (Nat.le_refl _) (by omega) (by omega) (fun y a b => by omega)
          | exact no 0 (fun he => absurd ((eqv k).mp he).1 (by omega)) (by omega) (by omega)
        · refine x_iconst (pc := 23) hC dX12_resolutionOf_23 ?_
          refine x_goto (pc := 24) hC 28 dX12_resolutionOf_24 (by decide) ?_
          refine x_istore_n (pc := 28) hC dX12_resolutionOf_28 (Nat.le_of_ble_eq_true rfl) ?_
          dsimp only [List.set]
          refine x_iconst (pc := 29) hC dX12_resolutionOf_29 ?_
          refine x_istore_n (pc := 30) hC dX12_resolutionOf_30 (Nat.le_of_ble_eq_true rfl) ?_
          dsimp only [List.set]
          first
          | exact loop (by omega) _ 0 (Nat.le_refl _) (by omega) (by omega) (fun y a b => by omega)
          | exact no 0 (fun he => absurd ((eqv k).mp he).1 (by omega)) (by omega) (by omega)
  refine x_iconst (pc := 0) hC dX12_resolutionOf_0 ?_
  refine x_istore_n (pc := 1) hC dX12_resolutionOf_1 (Nat.le_of_ble_eq_true rfl) ?_
  dsimp only [List.set]
  exact outer ((I o 30)).toNat 0 _ _ (by omega) (by omega) (fun j h => by omega)

/-- a gap: what comes of it, whether it is a conflict, whether that is open -/
def rsv (nm row : List Int) : List Int := row.map (fun v => if v < 100 then nm.getD v.toNat 0 else v - 100)
def gapC (rs : List (List Int × List Int)) (B O Th : List Int) : List Int × Int × Int := match rfind rs (cShape B O Th).1 with
  | some p => (rsv (cShape B O Th).2 p.2, 1, 0)
  | none => ([], 1, 1)
def gapV (rs : List (List Int × List Int)) (B O Th : List Int) : List Int × Int × Int := if O = B then (Th, 0, 0) else if Th = B ∨ Th = O then (O, 0, 0) else gapC rs B O Th
/-- all but what a merging uses has stayed; the pairs and the gaps too -/
def agM (B J : Nat → Int → Int) (o : Nat) : Prop := (∀ q, q ≠ o → (q < o + 15 ∨ q = o + 16 ∨ o + 19 < q) → J q = B q) ∧ ∀ k, k ≠ 21 → k ≠ 22 → k ≠ 23 → k ≠ 28 → k ≠ 29 → J o k = B o k
theorem agM.rf {B : Nat → Int → Int} {o : Nat} : agM B B o := ⟨fun _ _ _ => rfl, fun _ _ _ _ _ _ => rfl⟩
theorem agM.tr {A B C : Nat → Int → Int} {o : Nat} (h1 : agM A B o) (h2 : agM B C o) : agM A C o := ⟨fun q a b => (h2.1 q a b).trans (h1.1 q a b), fun k a b c d e => (h2.2 k a b c d e).trans (h1.2 k a b c d e)⟩
theorem agF.agM {B J : Nat → Int → Int} {o : Nat} (h : agF B J o) : agM B J o := ⟨fun q a b => h.1 q a (by omega) (by omega) (by omega), fun k _ _ _ d e => h.2 k d e⟩
theorem agR.agM {B J : Nat → Int → Int} {o : Nat} (h : agR B J o) : agM B J o := ⟨fun q a b => h.1 q a (by omega), fun k a _ _ _ _ => h.2 k a⟩
theorem agM.scr {B J : Nat → Int → Int} {o : Nat} (h : agM B J o) : scr B J o := ⟨fun q a b => h.1 q a (by omega), fun k a => h.2 k (fun e => a (Or.inr (Or.inr (Or.inl (by omega))))) (fun e => a (Or.inr (Or.inr (Or.inl (by omega))))) (fun e => a (Or.inr (Or.inr (Or.inl (by omega))))) (fun e => a (Or.inr (Or.inr (Or.inr (Or.inl e))))) (fun e => a (Or.inr (Or.inr (Or.inr (Or.inr e)))))⟩
theorem rsL_eq {I J : Nat → Int → Int} {o : Nat} (h0 : J o 30 = I o 30) (h20 : J (o + 20) = I (o + 20)) (h21 : J (o + 21) = I (o + 21)) (h22 : J (o + 22) = I (o + 22)) (h23 : J (o + 23) = I (o + 23)) : rsL J o = rsL I o := by
  unfold rsL rsK rsW
  rw [h0, h20, h21, h22, h23]
theorem miR_eq {I J : Nat → Int → Int} {o : Nat} (h0 : J o 30 = I o 30) (h20 : J (o + 20) = I (o + 20)) (h21 : J (o + 21) = I (o + 21)) (h22 : J (o + 22) = I (o + 22)) (h23 : J (o + 23) = I (o + 23)) (h : miR I o) : miR J o := by
  unfold miR rsK rsW at *
  rw [h0, h20, h21, h22, h23]
  exact h
theorem cShape_l (B O Th : List Int) : (cShape B O Th).1.length = 3 + B.length + O.length + Th.length ∧ (cShape B O Th).2.length ≤ B.length + O.length + Th.length := by
  have h1 := shpSeq_l B O Th
  have h2 := shpSeq_l B Th O
  unfold cShape
  split <;> omega

set_option maxHeartbeats 4000000 in
set_option maxRecDepth 100000 in
theorem m_resolves {G : ax_G} {T : Nat → Nat} {N : Nat → Int} {I : Nat → Int → Int} {R : Nat → Int → Option Nat} {z o : Nat} (M : axMo T N R o) {a b t g0 g1 g2 g3 g4 g5 : Int} {L : List Int} (hl : lnOk I o) (hR : miR I o) (hr : rM I o L) (ha : 0 ≤ a ∧ a < 26) (hb : 0 ≤ b ∧ b < 26) (ht : 0 ≤ t ∧ t < 26) (hop : 0 ≤ (I o 23) ∧ (I o 23) ≤ 16) (e0 : I (o + 16) (6 * (I o 23)) = g0) (e1 : I (o + 16) (6 * (I o 23) + 1) = g1) (e2 : I (o + 16) (6 * (I o 23) + 2) = g2) (e3 : I (o + 16) (6 * (I o 23) + 3) = g3) (e4 : I (o + 16) (6 * (I o 23) + 4) = g4) (e5 : I (o + 16) (6 * (I o 23) + 5) = g5) (h0 : 0 ≤ g0 ∧ g0 ≤ g1 ∧ g1 ≤ 16) (h2 : 0 ≤ g2 ∧ g2 ≤ g3 ∧ g3 ≤ 16) (h4 : 0 ≤ g4 ∧ g4 ≤ g5 ∧ g5 ≤ 16) (hroom : L.length + 6 ≤ 160) : axEx G YX12_resolves 3 [vR o, vI a, vI b, vI t] T N I R z (fun r1 I1 => r1 = none ∧ agM I I1 o ∧ rM I1 o (L ++ (gapC (rsL I o) (seg (rwI I o a) g0 g1) (seg (rwI I o b) g2 g3) (seg (rwI I o t) g4 g5)).1) ∧ (I1 o 22) = (I o 22) + 1 ∧ (I1 o 23) = (I o 23) + (gapC (rsL I o) (seg (rwI I o a) g0 g1) (seg (rwI I o b) g2 g3) (seg (rwI I o t) g4 g5)).2.2) := by

  refine ax_enter (by decide) (Nat.le_of_ble_eq_true rfl) (ax_cat rfl) (fun f hC => ?_)
  show axX G f 0 0 _ 0 [vR o, vI a, vI b, vI t, vU, vU, vU, vU] [] T N I R z 0 0
  obtain ⟨I2, hI2⟩ : ∃ J, J = ax_u I o 22 (I o 22 + 1) := ⟨_, rfl⟩
  have aI2 : ∀ q, q ≠ o → I2 q = I q := fun q h => by rw [hI2]; exact axu_row h
  have fI2 : ∀ k, k ≠ 22 → I2 o k = I o k := fun k h => by rw [hI2]; exact axu_j h
  have hl2 : lnOk I2 o := lnOk_eq (aI2 _ (by omega)) (aI2 _ (by omega)) hl
  have rw2 : ∀ c, rwI I2 o c = rwI I o c := fun c => rwI_eq (aI2 _ (by omega)) c
  have g16 : I2 (o + 16) = I (o + 16) := aI2 _ (by omega)
  have hcl := cShape_l (seg (rwI I o a) g0 g1) (seg (rwI I o b) g2 g3) (seg (rwI I o t) g4 g5)
  simp only [seg_len] at hcl
  refine x_bipush (pc := 0) hC dX12_resolves_0 (by decide) ?_
  refine x_aload_n (pc := 2) hC dX12_resolves_2 rfl ?_
  refine x_getI (pc := 3) hC gf_X12_236 dX12_resolves_3 M.1 ?_
  refine x_imul (pc := 6) hC dX12_resolves_6 ?_
  refine x_istore (pc := 7) hC dX12_resolves_7 (Nat.le_of_ble_eq_true rfl) ?_
  dsimp only [List.set]
  refine x_aload_n (pc := 9) hC dX12_resolves_9 rfl ?_
  refine x_dup (pc := 10) hC dX12_resolves_10 rfl ?_
  refine x_getI (pc := 11) hC gf_X12_207 dX12_resolves_11 M.1 ?_
  refine x_iconst (pc := 14) hC dX12_resolves_14 ?_
  refine x_iadd (pc := 15) hC dX12_resolves_15 ?_
  refine x_putI (pc := 16) hC pf_X12_207 dX12_resolves_16 M.1 (by decide) ?_
  rw [← hI2]
  refine x_aload_n (pc := 19) hC dX12_resolves_19 rfl ?_
  refine x_iload_n (pc := 20) hC dX12_resolves_20 rfl ?_
  refine x_iload_n (pc := 21) hC dX12_resolves_21 rfl ?_
  refine x_iload_n (pc := 22) hC dX12_resolves_22 rfl ?_
  refine x_iload (pc := 23) hC dX12_resolves_23 rfl ?_
  refine x_mVx (pc := 25) hC cv_X12_239 dX12_resolves_25 (m_shapeOf M hl2 ha hb ht (by omega) (by rw [g16]; exact e0) (by rw [g16]; exact e1) (by rw [g16]; exact e2) (by rw [g16]; exact e3) (by rw [g16]; exact e4) (by rw [g16]; exact e5) h0 h2 h4) M.1 rfl (by decide) rfl rfl (Nat.le_of_ble_eq_true rfl) ?_
  rintro v J ⟨rfl, hJ, s0, s1, hsz, hfs⟩
  dsimp only [Option.toList, List.nil_append]
  simp only [rw2] at s0 s1 hsz hfs
  have q20 : J (o + 20) = I (o + 20) := by rw [hJ.1 (o + 20) (by omega) (by omega) (by omega) (by omega), aI2 _ (by omega)]
  have q21 : J (o + 21) = I (o + 21) := by rw [hJ.1 (o + 21) (by omega) (by omega) (by omega) (by omega), aI2 _ (by omega)]
  have q22 : J (o + 22) = I (o + 22) := by rw [hJ.1 (o + 22) (by omega) (by omega) (by omega) (by omega), aI2 _ (by omega)]
  have q23 : J (o + 23) = I (o + 23) := by rw [hJ.1 (o + 23) (by omega) (by omega) (by omega) (by omega), aI2 _ (by omega)]
  have q30 : (J o 30) = (I o 30) := by rw [hJ.2 30 (by omega) (by omega), fI2 30 (by omega)]
  have hRJ := miR_eq q30 q20 q21 q22 q23 hR
  have hrsJ := rsL_eq q30 q20 q21 q22 q23
  have aJ : agM I J o := ⟨fun q x y => by rw [hJ.1 q x (by omega) (by omega) (by omega), aI2 q x], fun k x1 x2 x3 x4 x5 => by rw [hJ.2 k x4 x5, fI2 k x2]⟩
  have rJ : rM J o L := ⟨by rw [hJ.2 21 (by omega) (by omega), fI2 21 (by omega)]; exact hr.1, by rw [hJ.1 (o + 15) (by omega) (by omega) (by omega) (by omega), aI2 _ (by omega)]; exact hr.2⟩
  have cJ : (J o 22) = (I o 22) + 1 := by rw [hJ.2 22 (by omega) (by omega), hI2, axu_s]
  have oJ : (J o 23) = (I o 23) := by rw [hJ.2 23 (by omega) (by omega), fI2 23 (by omega)]
  have hf01 : (J o 29) = 0 ∨ (J o 29) = 1 := by rw [hfs]; exact lxF_01 _ _
  have hsM : shM J o ((J o 29)) (cShape (seg (rwI I o a) g0 g1) (seg (rwI I o b) g2 g3) (seg (rwI I o t) g4 g5)) := by
    unfold cShape
    rw [← hfs]
    rcases hf01 with h | h
    · rw [if_pos h, h]; exact s0
    · rw [if_neg (by omega), h]; exact s1
  have hszJ : (J o 28) = (cShape (seg (rwI I o a) g0 g1) (seg (rwI I o b) g2 g3) (seg (rwI I o t) g4 g5)).1.length := by
    rw [hsz]
    have z1 := shpSeq_l (seg (rwI I o a) g0 g1) (seg (rwI I o b) g2 g3) (seg (rwI I o t) g4 g5)
    simp only [seg_len] at z1
    omega
  have hrgJ : ∀ v ∈ (cShape (seg (rwI I o a) g0 g1) (seg (rwI I o b) g2 g3) (seg (rwI I o t) g4 g5)).1, 0 ≤ v ∧ v ≤ 48 := by
    unfold cShape
    split
    · exact shpSeq_r (by simp only [seg_len]; omega)
    · exact shpSeq_r (by simp only [seg_len]; omega)
  refine x_aload_n (pc := 28) hC dX12_resolves_28 rfl ?_
  refine x_mVx (pc := 29) hC cv_X12_242 dX12_resolves_29 (m_resolutionOf M hRJ hf01 hsM hszJ (by omega) hrgJ) M.1 rfl (by decide) rfl rfl (Nat.le_of_ble_eq_true rfl) ?_
  rintro v J2 ⟨k, rfl, rfl, hk⟩
  dsimp only [Option.toList, List.cons_append, List.nil_append]
  rw [hrsJ] at hk
  have hkr : k = -9 ∨ (0 ≤ k ∧ k < 8) := by
    have := hRJ.1.2
    rcases hk with h | h
    · exact Or.inl h.1
    · exact Or.inr ⟨h.1, by omega⟩
  refine x_istore (pc := 32) hC dX12_resolves_32 (Nat.le_of_ble_eq_true rfl) ?_
  dsimp only [List.set]
  refine x_iload (pc := 34) hC dX12_resolves_34 rfl ?_
  refine x_bipush (pc := 36) hC dX12_resolves_36 (by decide) ?_
  refine x_icmp_ne (pc := 38) hC 52 dX12_resolves_38 (by decide) (by omega) (by omega) (fun b38 => ?_) (fun b38 => ?_)
  · have hkk : 0 ≤ k ∧ k < (I o 30) ∧ rsK J2 o k = (cShape (seg (rwI I o a) g0 g1) (seg (rwI I o b) g2 g3) (seg (rwI I o t) g4 g5)).1 ∧ rfind (rsL I o) (cShape (seg (rwI I o a) g0 g1) (seg (rwI I o b) g2 g3) (seg (rwI I o t) g4 g5)).1 = some (rsK J2 o k, rsW J2 o k) := by
      rcases hk with h | h
      · omega
      · exact ⟨h.1, by omega, h.2.2.1, h.2.2.2⟩
    obtain ⟨k0, k1, k2, k3⟩ := hkk
    have hG : (gapC (rsL I o) (seg (rwI I o a) g0 g1) (seg (rwI I o b) g2 g3) (seg (rwI I o t) g4 g5)) = (rsv (cShape (seg (rwI I o a) g0 g1) (seg (rwI I o b) g2 g3) (seg (rwI I o t) g4 g5)).2 (rsW J2 o k), 1, 0) := by unfold gapC; rw [k3]
    have hwok := hRJ.2.2.2.2.2 k k0 (by omega)
    obtain ⟨hw6, B', X', Y', -, hsh, hvs⟩ := hwok
    have hnames : (cShape (seg (rwI I o a) g0 g1) (seg (rwI I o b) g2 g3) (seg (rwI I o t) g4 g5)).2.length = (shpSeq B' X' Y').2.length := by
      rw [k2] at hsh
      have hcs : (cShape (seg (rwI I o a) g0 g1) (seg (rwI I o b) g2 g3) (seg (rwI I o t) g4 g5)) = shpSeq (seg (rwI I o a) g0 g1) (seg (rwI I o b) g2 g3) (seg (rwI I o t) g4 g5) ∨ (cShape (seg (rwI I o a) g0 g1) (seg (rwI I o b) g2 g3) (seg (rwI I o t) g4 g5)) = shpSeq (seg (rwI I o a) g0 g1) (seg (rwI I o t) g4 g5) (seg (rwI I o b) g2 g3) := by
        unfold cShape
        split
        · exact Or.inl rfl
        · exact Or.inr rfl
      rcases hcs with h | h <;> rw [h] at hsh ⊢ <;> exact shpSeq_names hsh
    rw [← hnames] at hvs
    have hrsz := hRJ.2.2.2.2.1 k
    have hwl : ((rsW J2 o k).length : Int) = J2 (o + 23) k := by unfold rsW; rw [seg_len]; omega
    have loop : ∀ (n : Nat) (x : Int) (K : Nat → Int → Int) (c7 : ax_V), (J2 (o + 23) k - x).toNat ≤ n → 0 ≤ x → x ≤ J2 (o + 23) k → agR J2 K o → rM K o (L ++ rsv (cShape (seg (rwI I o a) g0 g1) (seg (rwI I o b) g2 g3) (seg (rwI I o t) g4 g5)).2 (seg (J2 (o + 22)) (6 * k) (6 * k + x))) → axX G f 0 0 (fun r1 T1 N1 I1 R1 z1 => (r1 = none ∧ agM I I1 o ∧ rM I1 o (L ++ (gapC (rsL I o) (seg (rwI I o a) g0 g1) (seg (rwI I o b) g2 g3) (seg (rwI I o t) g4 g5)).1) ∧ (I1 o 22) = (I o 22) + 1 ∧ (I1 o 23) = (I o 23) + (gapC (rsL I o) (seg (rwI I o a) g0 g1) (seg (rwI I o b) g2 g3) (seg (rwI I o t) g4 g5)).2.2) ∧ T1 = T ∧ N1 = N ∧ R1 = R ∧ z1 = z) 55 [vR o, vI a, vI b, vI t, vI (6 * I o 23), vI k, vI x, c7] [] T N K R z 0 0 := by
      intro n
      induction n with
      | zero =>
        intro x K c7 hn x0 x1 hK hM
        have f23 : K (o + 23) = J2 (o + 23) := hK.1 _ (by omega) (by omega)
        refine x_iload (pc := 55) hC dX12_resolves_55 rfl ?_
        refine x_aload_n (pc := 57) hC dX12_resolves_57 rfl ?_
        refine x_getO (pc := 58) hC gf_X12_76 dX12_resolves_58 M.1 (mo_rowSize M).1 ?_
        refine x_iload (pc := 61) hC dX12_resolves_61 rfl ?_
        refine x_iald (pc := 63) hC dX12_resolves_63 (mo_rowSize M).2.1 (by omega) (by rw [(mo_rowSize M).2.2]; omega) ?_
        rw [f23]
        refine x_icmp_ge (pc := 64) hC 137 dX12_resolves_64 (by decide) (by omega) (by omega) (fun b64 => ?_) (fun b64 => ?_)
        · refine x_vret (pc := 137) hC rfl dX12_resolves_137 ?_
          have hx : x = J2 (o + 23) k := by omega
          rw [hx] at hM
          rw [hG]
          refine ⟨⟨rfl, aJ.tr hK.agM, hM, ?_, ?_⟩, rfl, rfl, rfl, rfl⟩
          · rw [hK.2 22 (by omega)]; exact cJ
          · rw [hK.2 23 (by omega), oJ]; simp
        · omega
      | succ n ih =>
        intro x K c7 hn x0 x1 hK hM
        have f22 : K (o + 22) = J2 (o + 22) := hK.1 _ (by omega) (by omega)
        have f23 : K (o + 23) = J2 (o + 23) := hK.1 _ (by omega) (by omega)
        have f18 : K (o + 18) = J2 (o + 18) := hK.1 _ (by omega) (by omega)
        have ff : (K o 29) = (J2 o 29) := hK.2 29 (by omega)
        have hts : (K o 21) = L.length + x := by
          have := hM.1
          simp only [List.length_append, rsv, List.length_map, seg_len] at this
          omega
        refine x_iload (pc := 55) hC dX12_resolves_55 rfl ?_
        refine x_aload_n (pc := 57) hC dX12_resolves_57 rfl ?_
        refine x_getO (pc := 58) hC gf_X12_76 dX12_resolves_58 M.1 (mo_rowSize M).1 ?_
        refine x_iload (pc := 61) hC dX12_resolves_61 rfl ?_
        refine x_iald (pc := 63) hC dX12_resolves_63 (mo_rowSize M).2.1 (by omega) (by rw [(mo_rowSize M).2.2]; omega) ?_
        rw [f23]
        refine x_icmp_ge (pc := 64) hC 137 dX12_resolves_64 (by decide) (by omega) (by omega) (fun b64 => ?_) (fun b64 => ?_)
        · refine x_vret (pc := 137) hC rfl dX12_resolves_137 ?_
          have hx : x = J2 (o + 23) k := by omega
          rw [hx] at hM
          rw [hG]
          refine ⟨⟨rfl, aJ.tr hK.agM, hM, ?_, ?_⟩, rfl, rfl, rfl, rfl⟩
          · rw [hK.2 22 (by omega)]; exact cJ
          · rw [hK.2 23 (by omega), oJ]; simp
        · have hxm : J2 (o + 22) (6 * k + x) ∈ rsW J2 o k := by unfold rsW; rw [seg_mem]; exact ⟨6 * k + x, by omega, by omega, rfl⟩
          have hvx := hvs _ hxm
          refine x_aload_n (pc := 67) hC dX12_resolves_67 rfl ?_
          refine x_getO (pc := 68) hC gf_X12_73 dX12_resolves_68 M.1 (mo_rowOf M).1 ?_
          refine x_bipush (pc := 71) hC dX12_resolves_71 (by decide) ?_
          refine x_iload (pc := 73) hC dX12_resolves_73 rfl ?_
          refine x_imul (pc := 75) hC dX12_resolves_75 ?_
          refine x_iload (pc := 76) hC dX12_resolves_76 rfl ?_
          refine x_iadd (pc := 78) hC dX12_resolves_78 ?_
          refine x_iald (pc := 79) hC dX12_resolves_79 (mo_rowOf M).2.1 (by omega) (by rw [(mo_rowOf M).2.2]; omega) ?_
          rw [f22]
          refine x_istore (pc := 80) hC dX12_resolves_80 (Nat.le_of_ble_eq_true rfl) ?_
          dsimp only [List.set]
          refine x_aload_n (pc := 82) hC dX12_resolves_82 rfl ?_
          refine x_getO (pc := 83) hC gf_X12_52 dX12_resolves_83 M.1 (mo_result M).1 ?_
          refine x_aload_n (pc := 86) hC dX12_resolves_86 rfl ?_
          refine x_getI (pc := 87) hC gf_X12_210 dX12_resolves_87 M.1 ?_
          refine x_iload (pc := 90) hC dX12_resolves_90 rfl ?_
          refine x_bipush (pc := 92) hC dX12_resolves_92 (by decide) ?_
          refine x_icmp_ge (pc := 94) hC 115 dX12_resolves_94 (by decide) (by omega) (by omega) (fun b94 => ?_) (fun b94 => ?_)
          · refine x_iload (pc := 115) hC dX12_resolves_115 rfl ?_
            refine x_bipush (pc := 117) hC dX12_resolves_117 (by decide) ?_
            refine x_isub (pc := 119) hC dX12_resolves_119 ?_
            refine x_iast (pc := 120) hC dX12_resolves_120 (mo_result M).2.1 (by omega) (by rw [(mo_result M).2.2]; omega) ?_
            refine x_aload_n (pc := 121) hC dX12_resolves_121 rfl ?_
            refine x_dup (pc := 122) hC dX12_resolves_122 rfl ?_
            refine x_getI (pc := 123) hC gf_X12_210 dX12_resolves_123 M.1 ?_
            refine x_iconst (pc := 126) hC dX12_resolves_126 ?_
            refine x_iadd (pc := 127) hC dX12_resolves_127 ?_
            refine x_putI (pc := 128) hC pf_X12_210 dX12_resolves_128 M.1 (by decide) ?_
            refine x_iinc (pc := 131) hC dX12_resolves_131 rfl ?_
            dsimp only [List.set]
            refine x_goto (pc := 134) hC 55 dX12_resolves_134 (by decide) ?_
            refine ih (x + 1) _ _ (by omega) (by omega) (by omega) hK.app ?_
            have hst : rsv (cShape (seg (rwI I o a) g0 g1) (seg (rwI I o b) g2 g3) (seg (rwI I o t) g4 g5)).2 (seg (J2 (o + 22)) (6 * k) (6 * k + (x + 1))) = rsv (cShape (seg (rwI I o a) g0 g1) (seg (rwI I o b) g2 g3) (seg (rwI I o t) g4 g5)).2 (seg (J2 (o + 22)) (6 * k) (6 * k + x)) ++ [if J2 (o + 22) (6 * k + x) < 100 then (cShape (seg (rwI I o a) g0 g1) (seg (rwI I o b) g2 g3) (seg (rwI I o t) g4 g5)).2.getD (J2 (o + 22) (6 * k + x)).toNat 0 else J2 (o + 22) (6 * k + x) - 100] := by
              unfold rsv
              rw [← Int.add_assoc, seg_snoc (by omega), List.map_append]; rfl
            rw [hst, ← List.append_assoc]
            first
            | (rw [if_neg (by omega)]; exact hM.app)
            | (have hgd : (cShape (seg (rwI I o a) g0 g1) (seg (rwI I o b) g2 g3) (seg (rwI I o t) g4 g5)).2.getD (J2 (o + 22) (6 * k + x)).toNat 0 = J2 (o + 18) (48 * (J2 o 29) + J2 (o + 22) (6 * k + x)) := by
                 have h9 := seg_at (f := J2 (o + 18)) (i := 48 * (J2 o 29)) (j := 48 * (J2 o 29) + (cShape (seg (rwI I o a) g0 g1) (seg (rwI I o b) g2 g3) (seg (rwI I o t) g4 g5)).2.length) (k := J2 (o + 22) (6 * k + x)) (by omega) (by omega)
                 rw [hsM.2.2] at h9
                 exact h9
               rw [if_pos (by omega), hgd]
               exact hM.app)
          · refine x_aload_n (pc := 97) hC dX12_resolves_97 rfl ?_
            refine x_getO (pc := 98) hC gf_X12_61 dX12_resolves_98 M.1 (mo_named M).1 ?_
            refine x_bipush (pc := 101) hC dX12_resolves_101 (by decide) ?_
            refine x_aload_n (pc := 103) hC dX12_resolves_103 rfl ?_
            refine x_getI (pc := 104) hC gf_X12_233 dX12_resolves_104 M.1 ?_
            refine x_imul (pc := 107) hC dX12_resolves_107 ?_
            rw [ff]
            refine x_iload (pc := 108) hC dX12_resolves_108 rfl ?_
            refine x_iadd (pc := 110) hC dX12_resolves_110 ?_
            
            refine x_iald (pc := 111) hC dX12_resolves_111 (mo_named M).2.1 (by omega) (by rw [(mo_named M).2.2]; omega) ?_
            rw [f18]
            refine x_goto (pc := 112) hC 120 dX12_resolves_112 (by decide) ?_
            refine x_iast (pc := 120) hC dX12_resolves_120 (mo_result M).2.1 (by omega) (by rw [(mo_result M).2.2]; omega) ?_
            refine x_aload_n (pc := 121) hC dX12_resolves_121 rfl ?_
            refine x_dup (pc := 122) hC dX12_resolves_122 rfl ?_
            refine x_getI (pc := 123) hC gf_X12_210 dX12_resolves_123 M.1 ?_
            refine x_iconst (pc := 126) hC dX12_resolves_126 ?_
            refine x_iadd (pc := 127) hC dX12_resolves_127 ?_
            refine x_putI (pc := 128) hC pf_X12_210 dX12_resolves_128 M.1 (by decide) ?_
            refine x_iinc (pc := 131) hC dX12_resolves_131 rfl ?_
            dsimp only [List.set]
            refine x_goto (pc := 134) hC 55 dX12_resolves_134 (by decide) ?_
            refine ih (x + 1) _ _ (by omega) (by omega) (by omega) hK.app ?_
            have hst : rsv (cShape (seg (rwI I o a) g0 g1) (seg (rwI I o b) g2 g3) (seg (rwI I o t) g4 g5)).2 (seg (J2 (o + 22)) (6 * k) (6 * k + (x + 1))) = rsv (cShape (seg (rwI I o a) g0 g1) (seg (rwI I o b) g2 g3) (seg (rwI I o t) g4 g5)).2 (seg (J2 (o + 22)) (6 * k) (6 * k + x)) ++ [if J2 (o + 22) (6 * k + x) < 100 then (cShape (seg (rwI I o a) g0 g1) (seg (rwI I o b) g2 g3) (seg (rwI I o t) g4 g5)).2.getD (J2 (o + 22) (6 * k + x)).toNat 0 else J2 (o + 22) (6 * k + x) - 100] := by
              unfold rsv
              rw [← Int.add_assoc, seg_snoc (by omega), List.map_append]; rfl
            rw [hst, ← List.append_assoc]
            first
            | (rw [if_neg (by omega)]; exact hM.app)
            | (have hgd : (cShape (seg (rwI I o a) g0 g1) (seg (rwI I o b) g2 g3) (seg (rwI I o t) g4 g5)).2.getD (J2 (o + 22) (6 * k + x)).toNat 0 = J2 (o + 18) (48 * (J2 o 29) + J2 (o + 22) (6 * k + x)) := by
                 have h9 := seg_at (f := J2 (o + 18)) (i := 48 * (J2 o 29)) (j := 48 * (J2 o 29) + (cShape (seg (rwI I o a) g0 g1) (seg (rwI I o b) g2 g3) (seg (rwI I o t) g4 g5)).2.length) (k := J2 (o + 22) (6 * k + x)) (by omega) (by omega)
                 rw [hsM.2.2] at h9
                 exact h9
               rw [if_pos (by omega), hgd]
               exact hM.app)
    refine x_iconst (pc := 52) hC dX12_resolves_52 ?_
    refine x_istore (pc := 53) hC dX12_resolves_53 (Nat.le_of_ble_eq_true rfl) ?_
    dsimp only [List.set]
    refine loop (J2 (o + 23) k).toNat 0 J2 _ (by omega) (by omega) (by omega) agR.rf ?_
    rw [show seg (J2 (o + 22)) (6 * k) (6 * k + 0) = [] from seg_nil (by omega)]
    simp only [rsv, List.map_nil, List.append_nil]
    exact rJ
  · refine x_aload_n (pc := 41) hC dX12_resolves_41 rfl ?_
    refine x_dup (pc := 42) hC dX12_resolves_42 rfl ?_
    refine x_getI (pc := 43) hC gf_X12_236 dX12_resolves_43 M.1 ?_
    refine x_iconst (pc := 46) hC dX12_resolves_46 ?_
    refine x_iadd (pc := 47) hC dX12_resolves_47 ?_
    refine x_putI (pc := 48) hC pf_X12_236 dX12_resolves_48 M.1 (by decide) ?_
    refine x_vret (pc := 51) hC rfl dX12_resolves_51 ?_
    have hk9 : rfind (rsL I o) (cShape (seg (rwI I o a) g0 g1) (seg (rwI I o b) g2 g3) (seg (rwI I o t) g4 g5)).1 = none := by
      rcases hk with h | h
      · exact h.2
      · omega
    have hG : (gapC (rsL I o) (seg (rwI I o a) g0 g1) (seg (rwI I o b) g2 g3) (seg (rwI I o t) g4 g5)) = ([], 1, 1) := by unfold gapC; rw [hk9]
    rw [hG]
    refine ⟨⟨rfl, aJ.tr ⟨fun q x y => axu_row x, fun k x1 x2 x3 x4 x5 => axu_j x3⟩, ⟨?_, ?_⟩, ?_, ?_⟩, rfl, rfl, rfl, rfl⟩
    · rw [axu_j (by omega), List.append_nil]; exact rJ.1
    · rw [axu_row (by omega), List.append_nil]; exact rJ.2
    · rw [axu_j (by omega)]; exact cJ
    · rw [axu_s, oJ]

set_option maxHeartbeats 4000000 in
set_option maxRecDepth 100000 in
theorem m_mergesGap {G : ax_G} {T : Nat → Nat} {N : Nat → Int} {I : Nat → Int → Int} {R : Nat → Int → Option Nat} {z o : Nat} (M : axMo T N R o) {a b t g0 g1 g2 g3 g4 g5 : Int} {L : List Int} (hl : lnOk I o) (hR : miR I o) (hr : rM I o L) (ha : 0 ≤ a ∧ a < 26) (hb : 0 ≤ b ∧ b < 26) (ht : 0 ≤ t ∧ t < 26) (hop : 0 ≤ (I o 23) ∧ (I o 23) ≤ 16) (e0 : I (o + 16) (6 * (I o 23)) = g0) (e1 : I (o + 16) (6 * (I o 23) + 1) = g1) (e2 : I (o + 16) (6 * (I o 23) + 2) = g2) (e3 : I (o + 16) (6 * (I o 23) + 3) = g3) (e4 : I (o + 16) (6 * (I o 23) + 4) = g4) (e5 : I (o + 16) (6 * (I o 23) + 5) = g5) (h0 : 0 ≤ g0 ∧ g0 ≤ g1 ∧ g1 ≤ 16) (h2 : 0 ≤ g2 ∧ g2 ≤ g3 ∧ g3 ≤ 16) (h4 : 0 ≤ g4 ∧ g4 ≤ g5 ∧ g5 ≤ 16) (hroom : L.length + 16 ≤ 160) : axEx G YX12_mergesGap 4 [vR o, vI a, vI b, vI t] T N I R z (fun r1 I1 => r1 = none ∧ agM I I1 o ∧ rM I1 o (L ++ (gapV (rsL I o) (seg (rwI I o a) g0 g1) (seg (rwI I o b) g2 g3) (seg (rwI I o t) g4 g5)).1) ∧ (I1 o 22) = (I o 22) + (gapV (rsL I o) (seg (rwI I o a) g0 g1) (seg (rwI I o b) g2 g3) (seg (rwI I o t) g4 g5)).2.1 ∧ (I1 o 23) = (I o 23) + (gapV (rsL I o) (seg (rwI I o a) g0 g1) (seg (rwI I o b) g2 g3) (seg (rwI I o t) g4 g5)).2.2) := by

  refine ax_enter (by decide) (Nat.le_of_ble_eq_true rfl) (ax_cat rfl) (fun f hC => ?_)
  show axX G f 0 0 _ 0 [vR o, vI a, vI b, vI t, vU, vU, vU, vU, vU, vU, vU] [] T N I R z 0 0
  refine x_bipush (pc := 0) hC dX12_mergesGap_0 (by decide) ?_
  refine x_aload_n (pc := 2) hC dX12_mergesGap_2 rfl ?_
  refine x_getI (pc := 3) hC gf_X12_236 dX12_mergesGap_3 M.1 ?_
  refine x_imul (pc := 6) hC dX12_mergesGap_6 ?_
  refine x_istore (pc := 7) hC dX12_mergesGap_7 (Nat.le_of_ble_eq_true rfl) ?_
  dsimp only [List.set]
  refine x_aload_n (pc := 9) hC dX12_mergesGap_9 rfl ?_
  refine x_getO (pc := 10) hC gf_X12_55 dX12_mergesGap_10 M.1 (mo_gapOf M).1 ?_
  refine x_iload (pc := 13) hC dX12_mergesGap_13 rfl ?_
  refine x_iald (pc := 15) hC dX12_mergesGap_15 (mo_gapOf M).2.1 (by omega) (by rw [(mo_gapOf M).2.2]; omega) ?_
  rw [e0]
  refine x_istore (pc := 16) hC dX12_mergesGap_16 (Nat.le_of_ble_eq_true rfl) ?_
  dsimp only [List.set]
  refine x_aload_n (pc := 18) hC dX12_mergesGap_18 rfl ?_
  refine x_getO (pc := 19) hC gf_X12_55 dX12_mergesGap_19 M.1 (mo_gapOf M).1 ?_
  refine x_iload (pc := 22) hC dX12_mergesGap_22 rfl ?_
  refine x_iconst (pc := 24) hC dX12_mergesGap_24 ?_
  refine x_iadd (pc := 25) hC dX12_mergesGap_25 ?_
  refine x_iald (pc := 26) hC dX12_mergesGap_26 (mo_gapOf M).2.1 (by omega) (by rw [(mo_gapOf M).2.2]; omega) ?_
  rw [e1]
  refine x_istore (pc := 27) hC dX12_mergesGap_27 (Nat.le_of_ble_eq_true rfl) ?_
  dsimp only [List.set]
  refine x_aload_n (pc := 29) hC dX12_mergesGap_29 rfl ?_
  refine x_getO (pc := 30) hC gf_X12_55 dX12_mergesGap_30 M.1 (mo_gapOf M).1 ?_
  refine x_iload (pc := 33) hC dX12_mergesGap_33 rfl ?_
  refine x_iconst (pc := 35) hC dX12_mergesGap_35 ?_
  refine x_iadd (pc := 36) hC dX12_mergesGap_36 ?_
  refine x_iald (pc := 37) hC dX12_mergesGap_37 (mo_gapOf M).2.1 (by omega) (by rw [(mo_gapOf M).2.2]; omega) ?_
  rw [e2]
  refine x_istore (pc := 38) hC dX12_mergesGap_38 (Nat.le_of_ble_eq_true rfl) ?_
  dsimp only [List.set]
  refine x_aload_n (pc := 40) hC dX12_mergesGap_40 rfl ?_
  refine x_getO (pc := 41) hC gf_X12_55 dX12_mergesGap_41 M.1 (mo_gapOf M).1 ?_
  refine x_iload (pc := 44) hC dX12_mergesGap_44 rfl ?_
  refine x_iconst (pc := 46) hC dX12_mergesGap_46 ?_
  refine x_iadd (pc := 47) hC dX12_mergesGap_47 ?_
  refine x_iald (pc := 48) hC dX12_mergesGap_48 (mo_gapOf M).2.1 (by omega) (by rw [(mo_gapOf M).2.2]; omega) ?_
  rw [e3]
  refine x_istore (pc := 49) hC dX12_mergesGap_49 (Nat.le_of_ble_eq_true rfl) ?_
  dsimp only [List.set]
  refine x_aload_n (pc := 51) hC dX12_mergesGap_51 rfl ?_
  refine x_getO (pc := 52) hC gf_X12_55 dX12_mergesGap_52 M.1 (mo_gapOf M).1 ?_
  refine x_iload (pc := 55) hC dX12_mergesGap_55 rfl ?_
  refine x_iconst (pc := 57) hC dX12_mergesGap_57 ?_
  refine x_iadd (pc := 58) hC dX12_mergesGap_58 ?_
  refine x_iald (pc := 59) hC dX12_mergesGap_59 (mo_gapOf M).2.1 (by omega) (by rw [(mo_gapOf M).2.2]; omega) ?_
  rw [e4]
  refine x_istore (pc := 60) hC dX12_mergesGap_60 (Nat.le_of_ble_eq_true rfl) ?_
  dsimp only [List.set]
  refine x_aload_n (pc := 62) hC dX12_mergesGap_62 rfl ?_
  refine x_getO (pc := 63) hC gf_X12_55 dX12_mergesGap_63 M.1 (mo_gapOf M).1 ?_
  refine x_iload (pc := 66) hC dX12_mergesGap_66 rfl ?_
  refine x_iconst (pc := 68) hC dX12_mergesGap_68 ?_
  refine x_iadd (pc := 69) hC dX12_mergesGap_69 ?_
  refine x_iald (pc := 70) hC dX12_mergesGap_70 (mo_gapOf M).2.1 (by omega) (by rw [(mo_gapOf M).2.2]; omega) ?_
  rw [e5]
  refine x_istore (pc := 71) hC dX12_mergesGap_71 (Nat.le_of_ble_eq_true rfl) ?_
  dsimp only [List.set]
  refine x_aload_n (pc := 73) hC dX12_mergesGap_73 rfl ?_
  refine x_iload_n (pc := 74) hC dX12_mergesGap_74 rfl ?_
  refine x_iload (pc := 75) hC dX12_mergesGap_75 rfl ?_
  refine x_iload (pc := 77) hC dX12_mergesGap_77 rfl ?_
  refine x_iload_n (pc := 79) hC dX12_mergesGap_79 rfl ?_
  refine x_iload (pc := 80) hC dX12_mergesGap_80 rfl ?_
  refine x_iload (pc := 82) hC dX12_mergesGap_82 rfl ?_
  refine x_mV (pc := 84) hC cv_X12_246 dX12_mergesGap_84 (m_isSamePart M hl.1 hb h2 ha h0) M.1 rfl (by decide) rfl rfl (Nat.le_of_ble_eq_true rfl) ?_
  refine x_ifB_eq (pc := 87) hC 102 dX12_mergesGap_87 (by decide) (fun b87 => ?_) (fun b87 => ?_)
  · refine x_aload_n (pc := 102) hC dX12_mergesGap_102 rfl ?_
    refine x_iload_n (pc := 103) hC dX12_mergesGap_103 rfl ?_
    refine x_iload (pc := 104) hC dX12_mergesGap_104 rfl ?_
    refine x_iload (pc := 106) hC dX12_mergesGap_106 rfl ?_
    refine x_iload_n (pc := 108) hC dX12_mergesGap_108 rfl ?_
    refine x_iload (pc := 109) hC dX12_mergesGap_109 rfl ?_
    refine x_iload (pc := 111) hC dX12_mergesGap_111 rfl ?_
    refine x_mV (pc := 113) hC cv_X12_246 dX12_mergesGap_113 (m_isSamePart M hl.1 ht h4 ha h0) M.1 rfl (by decide) rfl rfl (Nat.le_of_ble_eq_true rfl) ?_
    refine x_ifB_ne (pc := 116) hC 136 dX12_mergesGap_116 (by decide) (fun b116 => ?_) (fun b116 => ?_)
    · refine x_aload_n (pc := 136) hC dX12_mergesGap_136 rfl ?_
      refine x_iload_n (pc := 137) hC dX12_mergesGap_137 rfl ?_
      refine x_iload (pc := 138) hC dX12_mergesGap_138 rfl ?_
      refine x_iload (pc := 140) hC dX12_mergesGap_140 rfl ?_
      refine x_mVx (pc := 142) hC cv_X12_250 dX12_mergesGap_142 (m_takes M hr hb h2.1 h2.2.1 h2.2.2 (by omega)) M.1 rfl (by decide) rfl rfl (Nat.le_of_ble_eq_true rfl) ?_
      rintro v J ⟨rfl, hJ, hM⟩
      dsimp only [Option.toList, List.nil_append]
      refine x_goto (pc := 145) hC 155 dX12_mergesGap_145 (by decide) ?_
      refine x_vret (pc := 155) hC rfl dX12_mergesGap_155 ?_
      first
      | (have hG : (gapV (rsL I o) (seg (rwI I o a) g0 g1) (seg (rwI I o b) g2 g3) (seg (rwI I o t) g4 g5)) = ((seg (rwI I o t) g4 g5), 0, 0) := by unfold gapV; rw [if_pos (by assumption)]
         rw [hG]
         exact ⟨⟨rfl, hJ.agM, hM, by rw [hJ.2 22 (by omega)]; simp, by rw [hJ.2 23 (by omega)]; simp⟩, rfl, rfl, rfl, rfl⟩)
      | (have hG : (gapV (rsL I o) (seg (rwI I o a) g0 g1) (seg (rwI I o b) g2 g3) (seg (rwI I o t) g4 g5)) = ((seg (rwI I o b) g2 g3), 0, 0) := by unfold gapV; rw [if_neg (by assumption), if_pos (by first | exact Or.inl (by assumption) | exact Or.inr (by assumption))]
         rw [hG]
         exact ⟨⟨rfl, hJ.agM, hM, by rw [hJ.2 22 (by omega)]; simp, by rw [hJ.2 23 (by omega)]; simp⟩, rfl, rfl, rfl, rfl⟩)
      | (have hG : (gapV (rsL I o) (seg (rwI I o a) g0 g1) (seg (rwI I o b) g2 g3) (seg (rwI I o t) g4 g5)) = (gapC (rsL I o) (seg (rwI I o a) g0 g1) (seg (rwI I o b) g2 g3) (seg (rwI I o t) g4 g5)) := by unfold gapV; rw [if_neg (by assumption), if_neg (by rintro (q | q) <;> exact absurd q (by assumption))]
         have hG1 : (gapC (rsL I o) (seg (rwI I o a) g0 g1) (seg (rwI I o b) g2 g3) (seg (rwI I o t) g4 g5)).2.1 = 1 := by unfold gapC; split <;> rfl
         rw [hG, hG1]
         exact ⟨⟨rfl, hJ, hM, hcf, hopn⟩, rfl, rfl, rfl, rfl⟩)
    · refine x_aload_n (pc := 119) hC dX12_mergesGap_119 rfl ?_
      refine x_iload_n (pc := 120) hC dX12_mergesGap_120 rfl ?_
      refine x_iload (pc := 121) hC dX12_mergesGap_121 rfl ?_
      refine x_iload (pc := 123) hC dX12_mergesGap_123 rfl ?_
      refine x_iload_n (pc := 125) hC dX12_mergesGap_125 rfl ?_
      refine x_iload (pc := 126) hC dX12_mergesGap_126 rfl ?_
      refine x_iload (pc := 128) hC dX12_mergesGap_128 rfl ?_
      refine x_mV (pc := 130) hC cv_X12_246 dX12_mergesGap_130 (m_isSamePart M hl.1 ht h4 hb h2) M.1 rfl (by decide) rfl rfl (Nat.le_of_ble_eq_true rfl) ?_
      refine x_ifB_eq (pc := 133) hC 148 dX12_mergesGap_133 (by decide) (fun b133 => ?_) (fun b133 => ?_)
      · refine x_aload_n (pc := 148) hC dX12_mergesGap_148 rfl ?_
        refine x_iload_n (pc := 149) hC dX12_mergesGap_149 rfl ?_
        refine x_iload_n (pc := 150) hC dX12_mergesGap_150 rfl ?_
        refine x_iload_n (pc := 151) hC dX12_mergesGap_151 rfl ?_
        refine x_mVx (pc := 152) hC cv_X12_253 dX12_mergesGap_152 (m_resolves M hl hR hr ha hb ht hop e0 e1 e2 e3 e4 e5 h0 h2 h4 (by omega)) M.1 rfl (by decide) rfl rfl (Nat.le_of_ble_eq_true rfl) ?_
        rintro v J ⟨rfl, hJ, hM, hcf, hopn⟩
        dsimp only [Option.toList, List.nil_append]
        refine x_vret (pc := 155) hC rfl dX12_mergesGap_155 ?_
        first
        | (have hG : (gapV (rsL I o) (seg (rwI I o a) g0 g1) (seg (rwI I o b) g2 g3) (seg (rwI I o t) g4 g5)) = ((seg (rwI I o t) g4 g5), 0, 0) := by unfold gapV; rw [if_pos (by assumption)]
           rw [hG]
           exact ⟨⟨rfl, hJ.agM, hM, by rw [hJ.2 22 (by omega)]; simp, by rw [hJ.2 23 (by omega)]; simp⟩, rfl, rfl, rfl, rfl⟩)
        | (have hG : (gapV (rsL I o) (seg (rwI I o a) g0 g1) (seg (rwI I o b) g2 g3) (seg (rwI I o t) g4 g5)) = ((seg (rwI I o b) g2 g3), 0, 0) := by unfold gapV; rw [if_neg (by assumption), if_pos (by first | exact Or.inl (by assumption) | exact Or.inr (by assumption))]
           rw [hG]
           exact ⟨⟨rfl, hJ.agM, hM, by rw [hJ.2 22 (by omega)]; simp, by rw [hJ.2 23 (by omega)]; simp⟩, rfl, rfl, rfl, rfl⟩)
        | (have hG : (gapV (rsL I o) (seg (rwI I o a) g0 g1) (seg (rwI I o b) g2 g3) (seg (rwI I o t) g4 g5)) = (gapC (rsL I o) (seg (rwI I o a) g0 g1) (seg (rwI I o b) g2 g3) (seg (rwI I o t) g4 g5)) := by unfold gapV; rw [if_neg (by assumption), if_neg (by rintro (q | q) <;> exact absurd q (by assumption))]
           have hG1 : (gapC (rsL I o) (seg (rwI I o a) g0 g1) (seg (rwI I o b) g2 g3) (seg (rwI I o t) g4 g5)).2.1 = 1 := by unfold gapC; split <;> rfl
           rw [hG, hG1]
           exact ⟨⟨rfl, hJ, hM, hcf, hopn⟩, rfl, rfl, rfl, rfl⟩)
      · refine x_aload_n (pc := 136) hC dX12_mergesGap_136 rfl ?_
        refine x_iload_n (pc := 137) hC dX12_mergesGap_137 rfl ?_
        refine x_iload (pc := 138) hC dX12_mergesGap_138 rfl ?_
        refine x_iload (pc := 140) hC dX12_mergesGap_140 rfl ?_
        refine x_mVx (pc := 142) hC cv_X12_250 dX12_mergesGap_142 (m_takes M hr hb h2.1 h2.2.1 h2.2.2 (by omega)) M.1 rfl (by decide) rfl rfl (Nat.le_of_ble_eq_true rfl) ?_
        rintro v J ⟨rfl, hJ, hM⟩
        dsimp only [Option.toList, List.nil_append]
        refine x_goto (pc := 145) hC 155 dX12_mergesGap_145 (by decide) ?_
        refine x_vret (pc := 155) hC rfl dX12_mergesGap_155 ?_
        first
        | (have hG : (gapV (rsL I o) (seg (rwI I o a) g0 g1) (seg (rwI I o b) g2 g3) (seg (rwI I o t) g4 g5)) = ((seg (rwI I o t) g4 g5), 0, 0) := by unfold gapV; rw [if_pos (by assumption)]
           rw [hG]
           exact ⟨⟨rfl, hJ.agM, hM, by rw [hJ.2 22 (by omega)]; simp, by rw [hJ.2 23 (by omega)]; simp⟩, rfl, rfl, rfl, rfl⟩)
        | (have hG : (gapV (rsL I o) (seg (rwI I o a) g0 g1) (seg (rwI I o b) g2 g3) (seg (rwI I o t) g4 g5)) = ((seg (rwI I o b) g2 g3), 0, 0) := by unfold gapV; rw [if_neg (by assumption), if_pos (by first | exact Or.inl (by assumption) | exact Or.inr (by assumption))]
           rw [hG]
           exact ⟨⟨rfl, hJ.agM, hM, by rw [hJ.2 22 (by omega)]; simp, by rw [hJ.2 23 (by omega)]; simp⟩, rfl, rfl, rfl, rfl⟩)
        | (have hG : (gapV (rsL I o) (seg (rwI I o a) g0 g1) (seg (rwI I o b) g2 g3) (seg (rwI I o t) g4 g5)) = (gapC (rsL I o) (seg (rwI I o a) g0 g1) (seg (rwI I o b) g2 g3) (seg (rwI I o t) g4 g5)) := by unfold gapV; rw [if_neg (by assumption), if_neg (by rintro (q | q) <;> exact absurd q (by assumption))]
           have hG1 : (gapC (rsL I o) (seg (rwI I o a) g0 g1) (seg (rwI I o b) g2 g3) (seg (rwI I o t) g4 g5)).2.1 = 1 := by unfold gapC; split <;> rfl
           rw [hG, hG1]
           exact ⟨⟨rfl, hJ, hM, hcf, hopn⟩, rfl, rfl, rfl, rfl⟩)
  · refine x_aload_n (pc := 90) hC dX12_mergesGap_90 rfl ?_
    refine x_iload_n (pc := 91) hC dX12_mergesGap_91 rfl ?_
    refine x_iload (pc := 92) hC dX12_mergesGap_92 rfl ?_
    refine x_iload (pc := 94) hC dX12_mergesGap_94 rfl ?_
    refine x_mVx (pc := 96) hC cv_X12_250 dX12_mergesGap_96 (m_takes M hr ht h4.1 h4.2.1 h4.2.2 (by omega)) M.1 rfl (by decide) rfl rfl (Nat.le_of_ble_eq_true rfl) ?_
    rintro v J ⟨rfl, hJ, hM⟩
    dsimp only [Option.toList, List.nil_append]
    refine x_goto (pc := 99) hC 155 dX12_mergesGap_99 (by decide) ?_
    refine x_vret (pc := 155) hC rfl dX12_mergesGap_155 ?_
    first
    | (have hG : (gapV (rsL I o) (seg (rwI I o a) g0 g1) (seg (rwI I o b) g2 g3) (seg (rwI I o t) g4 g5)) = ((seg (rwI I o t) g4 g5), 0, 0) := by unfold gapV; rw [if_pos (by assumption)]
       rw [hG]
       exact ⟨⟨rfl, hJ.agM, hM, by rw [hJ.2 22 (by omega)]; simp, by rw [hJ.2 23 (by omega)]; simp⟩, rfl, rfl, rfl, rfl⟩)
    | (have hG : (gapV (rsL I o) (seg (rwI I o a) g0 g1) (seg (rwI I o b) g2 g3) (seg (rwI I o t) g4 g5)) = ((seg (rwI I o b) g2 g3), 0, 0) := by unfold gapV; rw [if_neg (by assumption), if_pos (by first | exact Or.inl (by assumption) | exact Or.inr (by assumption))]
       rw [hG]
       exact ⟨⟨rfl, hJ.agM, hM, by rw [hJ.2 22 (by omega)]; simp, by rw [hJ.2 23 (by omega)]; simp⟩, rfl, rfl, rfl, rfl⟩)
    | (have hG : (gapV (rsL I o) (seg (rwI I o a) g0 g1) (seg (rwI I o b) g2 g3) (seg (rwI I o t) g4 g5)) = (gapC (rsL I o) (seg (rwI I o a) g0 g1) (seg (rwI I o b) g2 g3) (seg (rwI I o t) g4 g5)) := by unfold gapV; rw [if_neg (by assumption), if_neg (by rintro (q | q) <;> exact absurd q (by assumption))]
       have hG1 : (gapC (rsL I o) (seg (rwI I o a) g0 g1) (seg (rwI I o b) g2 g3) (seg (rwI I o t) g4 g5)).2.1 = 1 := by unfold gapC; split <;> rfl
       rw [hG, hG1]
       exact ⟨⟨rfl, hJ, hM, hcf, hopn⟩, rfl, rfl, rfl, rfl⟩)

