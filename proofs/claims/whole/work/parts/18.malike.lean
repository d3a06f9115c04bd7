/-! equal changes, marks -/
theorem rwI_eq {I J : Nat → Int → Int} {o : Nat} (h5 : J (o + 5) = I (o + 5)) (c : Int) : rwI J o c = rwI I o c := by funext i; simp only [rwI]; rw [h5]
theorem pcsC_eq {I J : Nat → Int → Int} {o : Nat} (h2 : J (o + 2) = I (o + 2)) (h5 : J (o + 5) = I (o + 5)) (h6 : J (o + 6) = I (o + 6)) (c : Int) : pcsC J o c = pcsC I o c := by
  unfold pcsC
  rw [h2, h6, rwI_eq h5, rwI_eq h5]
theorem chgC_eq {I J : Nat → Int → Int} {o : Nat} (h2 : J (o + 2) = I (o + 2)) (h5 : J (o + 5) = I (o + 5)) (h6 : J (o + 6) = I (o + 6)) (c : Int) : chgC J o c = chgC I o c := by
  unfold chgC
  rw [pcsC_eq h2 h5 h6, h2, rwI_eq h5, rwI_eq h5]
theorem lnOk_eq {I J : Nat → Int → Int} {o : Nat} (h5 : J (o + 5) = I (o + 5)) (h6 : J (o + 6) = I (o + 6)) (h : lnOk I o) : lnOk J o := by unfold lnOk; rw [h5, h6]; exact h
theorem chgC_len (I : Nat → Int → Int) (o : Nat) (c : Int) : (chgC I o c).length = (pcsC I o c).length := by simp [chgC, chgL]
theorem chFlat_r {I : Nat → Int → Int} {o : Nat} (hl : lnOk I o) (c v : Int) (h : v ∈ chFlat (chgC I o c)) : 0 ≤ v ∧ v < 100 := by
  have hpo := (pcsC_ok hl c).1
  simp only [chFlat, chgC, chgL, List.mem_flatMap, List.mem_map] at h
  obtain ⟨p, ⟨q, hq, rfl⟩, hv⟩ := h
  obtain ⟨q1, q2, q3, q4, q5, q6⟩ := hpo q hq
  simp only [List.mem_append, List.mem_cons, seg_len, seg_mem] at hv
  rcases hv with (rfl | ⟨k, -, -, rfl⟩) | (rfl | ⟨k, -, -, rfl⟩)
  · omega
  · exact hl.1 _
  · omega
  · exact hl.1 _
/-- what the search for changes and the merging use; nothing else has changed -/
def sfd (k : Int) : Prop := k = 13 ∨ k = 19 ∨ (21 ≤ k ∧ k ≤ 23) ∨ k = 28 ∨ k = 29
def scr (I J : Nat → Int → Int) (o : Nat) : Prop := (∀ q, q ≠ o → (q < o + 8 ∨ o + 19 < q) → J q = I q) ∧ ∀ k, ¬ sfd k → J o k = I o k
theorem scr.rf {I : Nat → Int → Int} {o : Nat} : scr I I o := ⟨fun _ _ _ => rfl, fun _ _ => rfl⟩
theorem scr.tr {I J K : Nat → Int → Int} {o : Nat} (h1 : scr I J o) (h2 : scr J K o) : scr I K o := ⟨fun q a b => (h2.1 q a b).trans (h1.1 q a b), fun k a => (h2.2 k a).trans (h1.2 k a)⟩
theorem frP.scr {I J : Nat → Int → Int} {o : Nat} (h : frP I J o) : scr I J o := ⟨fun q a b => h.1 q a (by omega), fun k a => h.2 k (fun e => a (Or.inl e))⟩
def sgn : Nat → Int
  | 0 => 7
  | n + 1 => (73 * sgn n + 29) % 1009
theorem sgn_r (n : Nat) : 0 ≤ sgn n ∧ sgn n < 1009 := by
  cases n with
  | zero => decide
  | succ n => simp only [sgn]; omega
def hsl (h : Int) (l : List Int) : Int := l.foldl (fun h x => 31 * h + sgn x.toNat) (31 * h + l.length)
def hsC (h : Int) (l : List (List Int × List Int)) : Int := l.foldl (fun h p => hsl (hsl h p.1) p.2) h

set_option maxHeartbeats 4000000 in
set_option maxRecDepth 100000 in
theorem m_areAlike {G : ax_G} {T : Nat → Nat} {N : Nat → Int} {I : Nat → Int → Int} {R : Nat → Int → Option Nat} {z o : Nat} (M : axMo T N R o) {c d : Int} (hl : lnOk I o) (hc : 0 ≤ c ∧ c < 24) (hd : 0 ≤ d ∧ d < 24) (hpc : c ≠ 0 → 0 ≤ I (o + 2) c ∧ I (o + 2) c < 24) (hpd : d ≠ 0 → 0 ≤ I (o + 2) d ∧ I (o + 2) d < 24) : axEx G YX12_areAlike 5 [vR o, vI c, vI d] T N I R z (fun r1 I1 => r1 = some (vI (bI (chgC I o c = chgC I o d))) ∧ scr I I1 o) := by

  refine ax_enter (by decide) (Nat.le_of_ble_eq_true rfl) (ax_cat rfl) (fun f hC => ?_)
  show axX G f 0 0 _ 0 [vR o, vI c, vI d, vU, vU, vU, vU] [] T N I R z 0 0
  have main : ∀ (J : Nat → Int → Int), scr I J o → (J o 19) = (chFlat (chgC I o d)).length → (J o 13) = (pcsC I o d).length → seg (J (o + 14)) 0 (chFlat (chgC I o c)).length = chFlat (chgC I o c) → seg (J (o + 14)) 80 (80 + (chFlat (chgC I o d)).length) = chFlat (chgC I o d) → (chFlat (chgC I o c)).length ≤ 66 → (chFlat (chgC I o d)).length ≤ 66 → axX G f 0 0 (fun r1 T1 N1 I1 R1 z1 => (r1 = some (vI (bI (chgC I o c = chgC I o d))) ∧ scr I I1 o) ∧ T1 = T ∧ N1 = N ∧ R1 = R ∧ z1 = z) 24 [vR o, vI c, vI d, vI (chFlat (chgC I o c)).length, vI (pcsC I o c).length, vU, vU] [] T N J R z 0 0 := by
    intro J hJ ht hp s1 s2 l1 l2
    have pc1 := (pcsC_ok hl c).2.1
    have pc2 := (pcsC_ok hl d).2.1
    have no : ∀ (x : Int), ¬ chgC I o c = chgC I o d → 0 ≤ x → x ≤ 66 → axX G f 0 0 (fun r1 T1 N1 I1 R1 z1 => (r1 = some (vI (bI (chgC I o c = chgC I o d))) ∧ scr I I1 o) ∧ T1 = T ∧ N1 = N ∧ R1 = R ∧ z1 = z) 51 [vR o, vI c, vI d, vI (chFlat (chgC I o c)).length, vI (pcsC I o c).length, vI 0, vI x] [] T N J R z 0 0 := by
      intro x hne h0 h1
      refine x_iload (pc := 51) hC dX12_areAlike_51 rfl ?_
      refine x_iload_n (pc := 53) hC dX12_areAlike_53 rfl ?_
      refine x_icmp_ge (pc := 54) hC 95 dX12_areAlike_54 (by decide) (by omega) (by omega) (fun b54 => ?_) (fun b54 => ?_)
      · refine x_iload (pc := 95) hC dX12_areAlike_95 rfl ?_
        refine x_zret (pc := 97) hC rfl dX12_areAlike_97 (Or.inl rfl) ?_
        exact ⟨⟨by rw [bI_f hne], hJ⟩, rfl, rfl, rfl, rfl⟩
      · refine x_iload (pc := 57) hC dX12_areAlike_57 rfl ?_
        refine x_if_eq (pc := 59) hC 95 dX12_areAlike_59 (by decide) (by omega) (fun b59 => ?_) (fun b59 => ?_)
        · refine x_iload (pc := 95) hC dX12_areAlike_95 rfl ?_
          refine x_zret (pc := 97) hC rfl dX12_areAlike_97 (Or.inl rfl) ?_
          exact ⟨⟨by rw [bI_f hne], hJ⟩, rfl, rfl, rfl, rfl⟩
        · exact absurd rfl (by assumption)
    by_cases hP : (chFlat (chgC I o c)).length = (chFlat (chgC I o d)).length ∧ (pcsC I o c).length = (pcsC I o d).length
    · have hiff : chgC I o c = chgC I o d ↔ ∀ y : Int, 0 ≤ y → y < (chFlat (chgC I o c)).length → J (o + 14) y = J (o + 14) (80 + y) := by
        rw [← chFlat_inj _ _ (by rw [chgC_len, chgC_len]; exact hP.2)]
        have s2' := s2
        rw [← hP.1] at s2'
        constructor
        · intro he y h0 h1
          have h5 : seg (J (o + 14)) 0 (chFlat (chgC I o c)).length = seg (J (o + 14)) 80 (80 + (chFlat (chgC I o c)).length) := by rw [s1, s2', he]
          have := ((seg_eq (by omega) (by omega)).mp h5).2 y h0 (by omega)
          rw [Int.zero_add] at this
          exact this
        · intro h
          have h5 : seg (J (o + 14)) 0 (chFlat (chgC I o c)).length = seg (J (o + 14)) 80 (80 + (chFlat (chgC I o c)).length) := seg_shift (by omega) (fun k a b => by rw [Int.zero_add]; exact h k a (by omega))
          exact s1.symm.trans (h5.trans s2')
      have rng : ∀ y : Int, 0 ≤ y → y < (chFlat (chgC I o c)).length → (0 ≤ J (o + 14) y ∧ J (o + 14) y < 100) ∧ (0 ≤ J (o + 14) (80 + y) ∧ J (o + 14) (80 + y) < 100) := by
        intro y h0 h1
        refine ⟨chFlat_r hl c _ ?_, chFlat_r hl d _ ?_⟩
        · rw [← s1, seg_mem]; exact ⟨y, h0, h1, rfl⟩
        · rw [← s2, seg_mem]; exact ⟨80 + y, by omega, by omega, rfl⟩
      have loop : ∀ (n : Nat) (x : Int), ((chFlat (chgC I o c)).length - x).toNat ≤ n → 0 ≤ x → x ≤ (chFlat (chgC I o c)).length → (∀ y : Int, 0 ≤ y → y < x → J (o + 14) y = J (o + 14) (80 + y)) → axX G f 0 0 (fun r1 T1 N1 I1 R1 z1 => (r1 = some (vI (bI (chgC I o c = chgC I o d))) ∧ scr I I1 o) ∧ T1 = T ∧ N1 = N ∧ R1 = R ∧ z1 = z) 51 [vR o, vI c, vI d, vI (chFlat (chgC I o c)).length, vI (pcsC I o c).length, vI 1, vI x] [] T N J R z 0 0 := by
        intro n
        induction n with
        | zero =>
          intro x hn h0 h1 hy
          refine x_iload (pc := 51) hC dX12_areAlike_51 rfl ?_
          refine x_iload_n (pc := 53) hC dX12_areAlike_53 rfl ?_
          refine x_icmp_ge (pc := 54) hC 95 dX12_areAlike_54 (by decide) (by omega) (by omega) (fun b54 => ?_) (fun b54 => ?_)
          · refine x_iload (pc := 95) hC dX12_areAlike_95 rfl ?_
            refine x_zret (pc := 97) hC rfl dX12_areAlike_97 (Or.inr rfl) ?_
            exact ⟨⟨by rw [bI_t (hiff.mpr (fun y a1 a2 => hy y a1 (by omega)))], hJ⟩, rfl, rfl, rfl, rfl⟩
          · omega
        | succ n ih =>
          intro x hn h0 h1 hy
          refine x_iload (pc := 51) hC dX12_areAlike_51 rfl ?_
          refine x_iload_n (pc := 53) hC dX12_areAlike_53 rfl ?_
          refine x_icmp_ge (pc := 54) hC 95 dX12_areAlike_54 (by decide) (by omega) (by omega) (fun b54 => ?_) (fun b54 => ?_)
          · refine x_iload (pc := 95) hC dX12_areAlike_95 rfl ?_
            refine x_zret (pc := 97) hC rfl dX12_areAlike_97 (Or.inr rfl) ?_
            exact ⟨⟨by rw [bI_t (hiff.mpr (fun y a1 a2 => hy y a1 (by omega)))], hJ⟩, rfl, rfl, rfl, rfl⟩
          · refine x_iload (pc := 57) hC dX12_areAlike_57 rfl ?_
            refine x_if_eq (pc := 59) hC 95 dX12_areAlike_59 (by decide) (by decide) (fun b59 => absurd b59 (by decide)) (fun _ => ?_)
            have hr := rng x h0 (by omega)
            refine x_aload_n (pc := 62) hC dX12_areAlike_62 rfl ?_
            refine x_getO (pc := 63) hC gf_X12_49 dX12_areAlike_63 M.1 (mo_told M).1 ?_
            refine x_iload (pc := 66) hC dX12_areAlike_66 rfl ?_
            refine x_iald (pc := 68) hC dX12_areAlike_68 (mo_told M).2.1 (by omega) (by rw [(mo_told M).2.2]; omega) ?_
            refine x_aload_n (pc := 69) hC dX12_areAlike_69 rfl ?_
            refine x_getO (pc := 70) hC gf_X12_49 dX12_areAlike_70 M.1 (mo_told M).1 ?_
            refine x_bipush (pc := 73) hC dX12_areAlike_73 (by decide) ?_
            refine x_iload (pc := 75) hC dX12_areAlike_75 rfl ?_
            refine x_iadd (pc := 77) hC dX12_areAlike_77 ?_
            refine x_iald (pc := 78) hC dX12_areAlike_78 (mo_told M).2.1 (by omega) (by rw [(mo_told M).2.2]; omega) ?_
            refine x_icmp_ne (pc := 79) hC 86 dX12_areAlike_79 (by decide) (by omega) (by omega) (fun b79 => ?_) (fun b79 => ?_)
            · refine x_iconst (pc := 86) hC dX12_areAlike_86 ?_
              refine x_istore (pc := 87) hC dX12_areAlike_87 (Nat.le_of_ble_eq_true rfl) ?_
              dsimp only [List.set]
              refine x_iinc (pc := 89) hC dX12_areAlike_89 rfl ?_
              dsimp only [List.set]
              refine x_goto (pc := 92) hC 51 dX12_areAlike_92 (by decide) ?_
              first
              | (refine ih (x + 1) (by omega) (by omega) (by omega) (fun y a1 a2 => ?_)
                 by_cases hyx : y = x
                 · rw [hyx]; assumption
                 · exact hy y a1 (by omega))
              | exact no (x + 1) (fun he => absurd (hiff.mp he x h0 (by omega)) (by assumption)) (by omega) (by omega)
            · refine x_iconst (pc := 82) hC dX12_areAlike_82 ?_
              refine x_goto (pc := 83) hC 87 dX12_areAlike_83 (by decide) ?_
              refine x_istore (pc := 87) hC dX12_areAlike_87 (Nat.le_of_ble_eq_true rfl) ?_
              dsimp only [List.set]
              refine x_iinc (pc := 89) hC dX12_areAlike_89 rfl ?_
              dsimp only [List.set]
              refine x_goto (pc := 92) hC 51 dX12_areAlike_92 (by decide) ?_
              first
              | (refine ih (x + 1) (by omega) (by omega) (by omega) (fun y a1 a2 => ?_)
                 by_cases hyx : y = x
                 · rw [hyx]; assumption
                 · exact hy y a1 (by omega))
              | exact no (x + 1) (fun he => absurd (hiff.mp he x h0 (by omega)) (by assumption)) (by omega) (by omega)
      refine x_iload_n (pc := 24) hC dX12_areAlike_24 rfl ?_
      refine x_aload_n (pc := 25) hC dX12_areAlike_25 rfl ?_
      refine x_getI (pc := 26) hC gf_X12_165 dX12_areAlike_26 M.1 ?_
      rw [ht]
      refine x_icmp_ne (pc := 29) hC 45 dX12_areAlike_29 (by decide) (by omega) (by omega) (fun b29 => ?_) (fun b29 => ?_)
      · omega
      · refine x_iload (pc := 32) hC dX12_areAlike_32 rfl ?_
        refine x_aload_n (pc := 34) hC dX12_areAlike_34 rfl ?_
        refine x_getI (pc := 35) hC gf_X12_151 dX12_areAlike_35 M.1 ?_
        rw [hp]
        refine x_icmp_ne (pc := 38) hC 45 dX12_areAlike_38 (by decide) (by omega) (by omega) (fun b38 => ?_) (fun b38 => ?_)
        · omega
        · refine x_iconst (pc := 41) hC dX12_areAlike_41 ?_
          refine x_goto (pc := 42) hC 46 dX12_areAlike_42 (by decide) ?_
          refine x_istore (pc := 46) hC dX12_areAlike_46 (Nat.le_of_ble_eq_true rfl) ?_
          dsimp only [List.set]
          refine x_iconst (pc := 48) hC dX12_areAlike_48 ?_
          refine x_istore (pc := 49) hC dX12_areAlike_49 (Nat.le_of_ble_eq_true rfl) ?_
          dsimp only [List.set]
          exact loop _ 0 (Nat.le_refl _) (by omega) (by omega) (fun y a1 a2 => by omega)
    · have hne : ¬ chgC I o c = chgC I o d := by
        intro he
        apply hP
        refine ⟨by rw [he], ?_⟩
        rw [← chgC_len, ← chgC_len, he]
      refine x_iload_n (pc := 24) hC dX12_areAlike_24 rfl ?_
      refine x_aload_n (pc := 25) hC dX12_areAlike_25 rfl ?_
      refine x_getI (pc := 26) hC gf_X12_165 dX12_areAlike_26 M.1 ?_
      rw [ht]
      refine x_icmp_ne (pc := 29) hC 45 dX12_areAlike_29 (by decide) (by omega) (by omega) (fun b29 => ?_) (fun b29 => ?_)
      · refine x_iconst (pc := 45) hC dX12_areAlike_45 ?_
        refine x_istore (pc := 46) hC dX12_areAlike_46 (Nat.le_of_ble_eq_true rfl) ?_
        dsimp only [List.set]
        refine x_iconst (pc := 48) hC dX12_areAlike_48 ?_
        refine x_istore (pc := 49) hC dX12_areAlike_49 (Nat.le_of_ble_eq_true rfl) ?_
        dsimp only [List.set]
        exact no 0 hne (by omega) (by omega)
      · refine x_iload (pc := 32) hC dX12_areAlike_32 rfl ?_
        refine x_aload_n (pc := 34) hC dX12_areAlike_34 rfl ?_
        refine x_getI (pc := 35) hC gf_X12_151 dX12_areAlike_35 M.1 ?_
        rw [hp]
        refine x_icmp_ne (pc := 38) hC 45 dX12_areAlike_38 (by decide) (by omega) (by omega) (fun b38 => ?_) (fun b38 => ?_)
        · refine x_iconst (pc := 45) hC dX12_areAlike_45 ?_
          refine x_istore (pc := 46) hC dX12_areAlike_46 (Nat.le_of_ble_eq_true rfl) ?_
          dsimp only [List.set]
          refine x_iconst (pc := 48) hC dX12_areAlike_48 ?_
          refine x_istore (pc := 49) hC dX12_areAlike_49 (Nat.le_of_ble_eq_true rfl) ?_
          dsimp only [List.set]
          exact no 0 hne (by omega) (by omega)
        · exact absurd ⟨by omega, by omega⟩ hP
  refine x_aload_n (pc := 0) hC dX12_areAlike_0 rfl ?_
  refine x_iload_n (pc := 1) hC dX12_areAlike_1 rfl ?_
  refine x_iconst (pc := 2) hC dX12_areAlike_2 ?_
  refine x_mVx (pc := 3) hC cv_X12_168 dX12_areAlike_3 (m_tells M hl hc hpc (Or.inl rfl)) M.1 rfl (by decide) rfl rfl (Nat.le_of_ble_eq_true rfl) ?_
  rintro v A ⟨rfl, a1, a2, a3, a4, a5, -, a7⟩
  dsimp only [Option.toList, List.nil_append]
  rw [Int.zero_add] at a5
  have e2 : A (o + 2) = I (o + 2) := a1 (o + 2) (by omega) (by omega)
  have e5 : A (o + 5) = I (o + 5) := a1 (o + 5) (by omega) (by omega)
  have e6 : A (o + 6) = I (o + 6) := a1 (o + 6) (by omega) (by omega)
  refine x_aload_n (pc := 6) hC dX12_areAlike_6 rfl ?_
  refine x_getI (pc := 7) hC gf_X12_165 dX12_areAlike_7 M.1 ?_
  refine x_istore_n (pc := 10) hC dX12_areAlike_10 (Nat.le_of_ble_eq_true rfl) ?_
  dsimp only [List.set]
  refine x_aload_n (pc := 11) hC dX12_areAlike_11 rfl ?_
  refine x_getI (pc := 12) hC gf_X12_151 dX12_areAlike_12 M.1 ?_
  refine x_istore (pc := 15) hC dX12_areAlike_15 (Nat.le_of_ble_eq_true rfl) ?_
  dsimp only [List.set]
  refine x_aload_n (pc := 17) hC dX12_areAlike_17 rfl ?_
  refine x_iload_n (pc := 18) hC dX12_areAlike_18 rfl ?_
  refine x_bipush (pc := 19) hC dX12_areAlike_19 (by decide) ?_
  refine x_mVx (pc := 21) hC cv_X12_168 dX12_areAlike_21 (m_tells M (lnOk_eq e5 e6 hl) hd (by rw [e2]; exact hpd) (Or.inr rfl)) M.1 rfl (by decide) rfl rfl (Nat.le_of_ble_eq_true rfl) ?_
  rintro v B ⟨rfl, b1, b2, b3, b4, b5, b6, b7⟩
  dsimp only [Option.toList, List.nil_append]
  rw [pcsC_eq e2 e5 e6] at b3
  rw [chgC_eq e2 e5 e6] at b4 b5 b7
  rw [a4, a3]
  refine main B ⟨fun q h1 h2 => ?_, fun k h1 => ?_⟩ b4 b3 ?_ b5 a7 b7
  · rw [b1 q h1 (by omega), a1 q h1 (by omega)]
  · rw [b2 k (fun e => h1 (Or.inl e)) (fun e => h1 (Or.inr (Or.inl e))), a2 k (fun e => h1 (Or.inl e)) (fun e => h1 (Or.inr (Or.inl e)))]
  · refine Eq.trans (seg_congr (fun k h1 h2 => b6 k (by omega))) a5

set_option maxHeartbeats 4000000 in
set_option maxRecDepth 100000 in
theorem m_signOf {G : ax_G} {T : Nat → Nat} {N : Nat → Int} {I : Nat → Int → Int} {R : Nat → Int → Option Nat} {z : Nat} {l : Int} (h : 0 ≤ l ∧ l < 100) : axE G YX12_signOf 0 [vI l] T N I R z (some (vI (sgn l.toNat))) I := by

  refine ax_enter (by decide) (Nat.le_of_ble_eq_true rfl) (ax_cat rfl) (fun f hC => ?_)
  show axX G f 0 0 _ 0 [vI l, vU, vU] [] T N I R z 0 0
  have loop : ∀ (n : Nat) (x : Int), (l - x).toNat ≤ n → 0 ≤ x → x ≤ l → axX G f 0 0 (fun r1 T1 N1 I1 R1 z1 => r1 = some (vI (sgn l.toNat)) ∧ T1 = T ∧ N1 = N ∧ I1 = I ∧ R1 = R ∧ z1 = z) 5 [vI l, vI (sgn x.toNat), vI x] [] T N I R z 0 0 := by
    intro n
    induction n with
    | zero =>
      intro x hn h0 h1
      have hx : x = l := by omega
      refine x_iload_n (pc := 5) hC dX12_signOf_5 rfl ?_
      refine x_iload_n (pc := 6) hC dX12_signOf_6 rfl ?_
      refine x_icmp_ge (pc := 7) hC 28 dX12_signOf_7 (by decide) (by omega) (by omega) (fun b7 => ?_) (fun b7 => ?_)
      · refine x_iload_n (pc := 28) hC dX12_signOf_28 rfl ?_
        refine x_iret (pc := 29) hC rfl dX12_signOf_29 ?_
        exact ⟨by rw [hx], rfl, rfl, rfl, rfl, rfl⟩
      · omega
    | succ n ih =>
      intro x hn h0 h1
      have hr := sgn_r x.toNat
      have es : sgn (x + 1).toNat = (73 * sgn x.toNat + 29) % 1009 := by
        have : (x + 1).toNat = x.toNat + 1 := by omega
        rw [this]; rfl
      refine x_iload_n (pc := 5) hC dX12_signOf_5 rfl ?_
      refine x_iload_n (pc := 6) hC dX12_signOf_6 rfl ?_
      refine x_icmp_ge (pc := 7) hC 28 dX12_signOf_7 (by decide) (by omega) (by omega) (fun b7 => ?_) (fun b7 => ?_)
      · refine x_iload_n (pc := 28) hC dX12_signOf_28 rfl ?_
        refine x_iret (pc := 29) hC rfl dX12_signOf_29 ?_
        have hx : x = l := by omega
        exact ⟨by rw [hx], rfl, rfl, rfl, rfl, rfl⟩
      · refine x_bipush (pc := 10) hC dX12_signOf_10 (by decide) ?_
        refine x_iload_n (pc := 12) hC dX12_signOf_12 rfl ?_
        refine x_imul (pc := 13) hC dX12_signOf_13 ?_
        refine x_bipush (pc := 14) hC dX12_signOf_14 (by decide) ?_
        refine x_iadd (pc := 16) hC dX12_signOf_16 ?_
        refine x_sipush (pc := 17) hC dX12_signOf_17 (by decide) ?_
        refine x_irem (pc := 20) hC dX12_signOf_20 (by omega) (by omega) (by omega) (by omega) ?_
        refine x_istore_n (pc := 21) hC dX12_signOf_21 (Nat.le_of_ble_eq_true rfl) ?_
        dsimp only [List.set]
        refine x_iinc (pc := 22) hC dX12_signOf_22 rfl ?_
        dsimp only [List.set]
        refine x_goto (pc := 25) hC 5 dX12_signOf_25 (by decide) ?_
        rw [← es]
        exact ih (x + 1) (by omega) (by omega) (by omega)
  refine x_bipush (pc := 0) hC dX12_signOf_0 (by decide) ?_
  refine x_istore_n (pc := 2) hC dX12_signOf_2 (Nat.le_of_ble_eq_true rfl) ?_
  dsimp only [List.set]
  refine x_iconst (pc := 3) hC dX12_signOf_3 ?_
  refine x_istore_n (pc := 4) hC dX12_signOf_4 (Nat.le_of_ble_eq_true rfl) ?_
  dsimp only [List.set]
  exact loop l.toNat 0 (by omega) (by omega) (by omega)

