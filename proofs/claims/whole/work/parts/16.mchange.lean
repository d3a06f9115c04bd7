/-! changes -/
/-- the pieces, as their ends: from place x on, with n places left -/
def pcsL (pr : Int → Int) (na nb : Int) : Nat → Int → Int → Int → List (Int × Int × Int × Int)
  | 0, _, i, j => if i < na ∨ j < nb then [(i, na, j, nb)] else []
  | n + 1, x, i, j => if pr x = -9 then pcsL pr na nb n (x + 1) i j else (if i < x ∨ j < pr x then [(i, x, j, pr x)] else []) ++ pcsL pr na nb n (x + 1) (x + 1) (pr x + 1)
def pcsOf (a b : Int → Int) (na nb : Int) : List (Int × Int × Int × Int) := pcsL (mtP a b na nb) na nb na.toNat 0 0 0
def pOk (na nb : Int) (q : Int × Int × Int × Int) : Prop := 0 ≤ q.1 ∧ q.1 ≤ q.2.1 ∧ q.2.1 ≤ na ∧ 0 ≤ q.2.2.1 ∧ q.2.2.1 ≤ q.2.2.2 ∧ q.2.2.2 ≤ nb
def ptot (l : List (Int × Int × Int × Int)) : Int := (l.map (fun q => 2 + (q.2.1 - q.1) + (q.2.2.2 - q.2.2.1))).sum
theorem pcsL_ok {a b : Int → Int} {na nb : Int} (hb : 0 ≤ nb) : ∀ (n : Nat) (x i j : Int), 0 ≤ i → i ≤ x → x + n = na → j = (mtS a b na nb x.toNat).2 → 0 ≤ x →
    (∀ q ∈ pcsL (mtP a b na nb) na nb n x i j, pOk na nb q) ∧ (pcsL (mtP a b na nb) na nb n x i j).length ≤ n + 1 ∧ ptot (pcsL (mtP a b na nb) na nb n x i j) ≤ (na - i) + (nb - j) + 2 * ((n : Int) + 1) := by
  intro n
  induction n with
  | zero =>
    intro x i j h0 h1 h2 hj hx
    have hf := mtS_f a b (na := na) hb x.toNat
    rw [← hj] at hf
    simp only [pcsL]
    split
    · refine ⟨fun q hq => ?_, by simp, ?_⟩
      · simp at hq; subst hq; exact ⟨h0, by dsimp only; omega, by dsimp only; omega, hf.1, by dsimp only; omega, by dsimp only; omega⟩
      · simp [ptot]; omega
    · refine ⟨fun q hq => by simp at hq, by simp, ?_⟩
      simp [ptot]; omega
  | succ n ih =>
    intro x i j h0 h1 h2 hj hx
    have hs := mtS_s (a := a) (b := b) (na := na) (nb := nb) hx
    have hf := mtS_f a b (na := na) hb x.toNat
    rw [← hj] at hf
    simp only [pcsL]
    by_cases hp : mtP a b na nb x = -9
    · rw [if_pos hp]
      rw [if_pos hp] at hs
      have := ih (x + 1) i j h0 (by omega) (by omega) (by rw [hs]; exact hj) (by omega)
      refine ⟨this.1, by omega, by have := this.2.2; omega⟩
    · rw [if_neg hp]
      rw [if_neg hp] at hs
      rcases mtP_r a b (na := na) x hb with hq | ⟨r1, r2, -⟩
      · exact absurd hq hp
      · rw [← hj] at r1
        have := ih (x + 1) (x + 1) (mtP a b na nb x + 1) (by omega) (by omega) (by omega) (by rw [hs]) (by omega)
        split
        · refine ⟨fun q hq => ?_, by simp; omega, ?_⟩
          · rcases List.mem_append.mp hq with hq | hq
            · simp at hq; subst hq; exact ⟨h0, h1, by dsimp only; omega, hf.1, r1, by dsimp only; omega⟩
            · exact this.1 q hq
          · have h3 := this.2.2
            simp only [ptot, List.map_append, List.sum_append, List.map_cons, List.map_nil, List.sum_cons, List.sum_nil] at h3 ⊢
            omega
        · refine ⟨fun q hq => ?_, by simp; omega, ?_⟩
          · rw [List.nil_append] at hq; exact this.1 q hq
          · have h3 := this.2.2
            rw [List.nil_append]
            omega
theorem pcsOf_ok {a b : Int → Int} {na nb : Int} (ha : 0 ≤ na) (hb : 0 ≤ nb) : (∀ q ∈ pcsOf a b na nb, pOk na nb q) ∧ (pcsOf a b na nb).length ≤ na + 1 ∧ ptot (pcsOf a b na nb) ≤ 3 * na + nb + 2 := by
  have := pcsL_ok (a := a) (b := b) (na := na) hb na.toNat 0 0 0 (by omega) (by omega) (by omega) (by rw [mtS_0]) (by omega)
  refine ⟨this.1, ?_, ?_⟩
  · have := this.2.1
    unfold pcsOf
    omega
  · have := this.2.2
    unfold pcsOf
    omega
/-- a change: what goes out and what comes in -/
def chgL (a b : Int → Int) (l : List (Int × Int × Int × Int)) : List (List Int × List Int) := l.map (fun q => (seg a q.1 q.2.1, seg b q.2.2.1 q.2.2.2))
def chFlat (l : List (List Int × List Int)) : List Int := l.flatMap (fun p => (p.1.length : Int) :: p.1 ++ (p.2.length : Int) :: p.2)
theorem chFlat_inj : ∀ (l k : List (List Int × List Int)), l.length = k.length → (chFlat l = chFlat k ↔ l = k) := by
  intro l
  induction l with
  | nil =>
    intro k h
    cases k with
    | nil => simp
    | cons => simp at h
  | cons p l ih =>
    intro k h
    cases k with
    | nil => simp at h
    | cons q k =>
      have hl : l.length = k.length := by simpa using h
      constructor
      · intro he
        simp only [chFlat, List.flatMap_cons, List.cons_append, List.append_assoc] at he
        injection he with h1 h2
        have h1' : p.1.length = q.1.length := by omega
        have h3 := List.append_inj h2 h1'
        have h4 := h3.2
        injection h4 with h5 h6
        have h5' : p.2.length = q.2.length := by omega
        have h7 := List.append_inj h6 h5'
        have h8 := (ih k hl).mp h7.2
        rw [h8]
        congr 1
        exact Prod.ext h3.1 h7.1
      · intro he; rw [he]
/-- the change of a commit, out of the reference's numbers -/
def pcsC (I : Nat → Int → Int) (o : Nat) (c : Int) : List (Int × Int × Int × Int) := if c = 0 then [] else pcsOf (rwI I o (I (o + 2) c)) (rwI I o c) (I (o + 6) (I (o + 2) c)) (I (o + 6) c)
def chgC (I : Nat → Int → Int) (o : Nat) (c : Int) : List (List Int × List Int) := chgL (rwI I o (I (o + 2) c)) (rwI I o c) (pcsC I o c)
theorem pcsC_ok {I : Nat → Int → Int} {o : Nat} (hl : lnOk I o) (c : Int) : (∀ q ∈ pcsC I o c, pOk 16 16 q) ∧ (pcsC I o c).length ≤ 17 ∧ ptot (pcsC I o c) ≤ 66 := by
  unfold pcsC
  split
  · exact ⟨fun q hq => by simp at hq, by simp, by simp [ptot]⟩
  · have h1 := hl.2 (I (o + 2) c)
    have h2 := hl.2 c
    have h := pcsOf_ok (a := rwI I o (I (o + 2) c)) (b := rwI I o c) h1.1 h2.1
    refine ⟨fun q hq => ?_, by have := h.2.1; omega, by have := h.2.2; omega⟩
    obtain ⟨q1, q2, q3, q4, q5, q6⟩ := h.1 q hq
    exact ⟨q1, q2, by omega, q4, q5, by omega⟩
/-- the pieces as they stand in the reference's rows -/
def pcM (J : Nat → Int → Int) (o : Nat) (l : List (Int × Int × Int × Int)) : Prop := ∀ (k : Nat) (q : Int × Int × Int × Int), l[k]? = some q → J (o + 10) k = q.1 ∧ J (o + 11) k = q.2.1 ∧ J (o + 12) k = q.2.2.1 ∧ J (o + 13) k = q.2.2.2
abbrev apI (I : Nat → Int → Int) (o : Nat) (i ie j je : Int) : Nat → Int → Int := ax_u (ax_u (ax_u (ax_u (ax_u I (o + 10) (I o 13) i) (o + 11) (I o 13) ie) (o + 12) (I o 13) j) (o + 13) (I o 13) je) o 13 (I o 13 + 1)
/-- nothing but what the search for pieces uses has changed -/
def frP (I J : Nat → Int → Int) (o : Nat) : Prop := (∀ q, q ≠ o → (q < o + 8 ∨ o + 13 < q) → J q = I q) ∧ ∀ k, k ≠ 13 → J o k = I o k
theorem frP.tr {I J K : Nat → Int → Int} {o : Nat} (h1 : frP I J o) (h2 : frP J K o) : frP I K o := ⟨fun q a b => (h2.1 q a b).trans (h1.1 q a b), fun k a => (h2.2 k a).trans (h1.2 k a)⟩
theorem apI_fr {I : Nat → Int → Int} {o : Nat} {i ie j je : Int} : frP I (apI I o i ie j je) o := by
  refine ⟨fun q h1 h2 => ?_, fun k h => ?_⟩
  · unfold apI
    rw [axu_row h1, axu_row (by omega), axu_row (by omega), axu_row (by omega), axu_row (by omega)]
  · unfold apI
    rw [axu_j h, axu_a (by omega), axu_a (by omega), axu_a (by omega), axu_a (by omega)]
theorem apI_p {I : Nat → Int → Int} {o : Nat} {i ie j je : Int} : apI I o i ie j je o 13 = I o 13 + 1 := axu_s
theorem apI_pcM {I : Nat → Int → Int} {o : Nat} {i ie j je : Int} {l : List (Int × Int × Int × Int)} (h : pcM I o l) (hp : I o 13 = l.length) : pcM (apI I o i ie j je) o (l ++ [(i, ie, j, je)]) := by
  intro k q hk
  by_cases hkl : k < l.length
  · rw [List.getElem?_append_left hkl] at hk
    have hne : (k : Int) ≠ I o 13 := by omega
    have := h k q hk
    unfold apI
    refine ⟨?_, ?_, ?_, ?_⟩ <;> (simp only [axu_j hne, axu_a (show o + 10 ≠ o by omega), axu_a (show o + 11 ≠ o by omega), axu_a (show o + 12 ≠ o by omega), axu_a (show o + 13 ≠ o by omega)]) 
    · exact this.1
    · exact this.2.1
    · exact this.2.2.1
    · exact this.2.2.2
  · rw [List.getElem?_append_right (by omega)] at hk
    have hk1 : k - l.length < 1 := (List.getElem?_eq_some_iff.mp hk).1
    have hke : k = l.length := by omega
    rw [hke, Nat.sub_self] at hk
    cases hk
    have he : (k : Int) = I o 13 := by omega
    unfold apI
    rw [he]
    refine ⟨?_, ?_, ?_, ?_⟩
    · rw [axu_a (by omega), axu_a (by omega), axu_a (by omega), axu_a (by omega), axu_s]
    · rw [axu_a (by omega), axu_a (by omega), axu_a (by omega), axu_s]
    · rw [axu_a (by omega), axu_a (by omega), axu_s]
    · rw [axu_a (by omega), axu_s]

set_option maxHeartbeats 4000000 in
set_option maxRecDepth 100000 in
theorem m_addPiece {G : ax_G} {T : Nat → Nat} {N : Nat → Int} {I : Nat → Int → Int} {R : Nat → Int → Option Nat} {z o : Nat} (M : axMo T N R o) {i ie j je : Int} (hi : ax_r i) (hie : ax_r ie) (hj : ax_r j) (hje : ax_r je) (hp : 0 ≤ (I o 13) ∧ (I o 13) < 17) : axE G YX12_addPiece 0 [vR o, vI i, vI ie, vI j, vI je] T N I R z none (if i < ie ∨ j < je then apI I o i ie j je else I) := by

  refine ax_enter (by decide) (Nat.le_of_ble_eq_true rfl) (ax_cat rfl) (fun f hC => ?_)
  show axX G f 0 0 _ 0 [vR o, vI i, vI ie, vI j, vI je] [] T N I R z 0 0
  have e1 : ax_u I (o + 10) (I o 13) i o 13 = I o 13 := axu_a (by omega)
  have e2 : ax_u (ax_u I (o + 10) (I o 13) i) (o + 11) (I o 13) ie o 13 = I o 13 := by rw [axu_a (by omega), e1]
  have e3 : ax_u (ax_u (ax_u I (o + 10) (I o 13) i) (o + 11) (I o 13) ie) (o + 12) (I o 13) j o 13 = I o 13 := by rw [axu_a (by omega), e2]
  have e4 : ax_u (ax_u (ax_u (ax_u I (o + 10) (I o 13) i) (o + 11) (I o 13) ie) (o + 12) (I o 13) j) (o + 13) (I o 13) je o 13 = I o 13 := by rw [axu_a (by omega), e3]
  have go : i < ie ∨ j < je → axX G f 0 0 (fun r1 T1 N1 I1 R1 z1 => r1 = none ∧ T1 = T ∧ N1 = N ∧ I1 = (if i < ie ∨ j < je then apI I o i ie j je else I) ∧ R1 = R ∧ z1 = z) 11 [vR o, vI i, vI ie, vI j, vI je] [] T N I R z 0 0 := by
    intro hh
    refine x_aload_n (pc := 11) hC dX12_addPiece_11 rfl ?_
    refine x_getO (pc := 12) hC gf_X12_37 dX12_addPiece_12 M.1 (mo_outFrom M).1 ?_
    refine x_aload_n (pc := 15) hC dX12_addPiece_15 rfl ?_
    refine x_getI (pc := 16) hC gf_X12_151 dX12_addPiece_16 M.1 ?_
    refine x_iload_n (pc := 19) hC dX12_addPiece_19 rfl ?_
    refine x_iast (pc := 20) hC dX12_addPiece_20 (mo_outFrom M).2.1 (by omega) (by rw [(mo_outFrom M).2.2]; omega) ?_
    refine x_aload_n (pc := 21) hC dX12_addPiece_21 rfl ?_
    refine x_getO (pc := 22) hC gf_X12_40 dX12_addPiece_22 M.1 (mo_outTo M).1 ?_
    refine x_aload_n (pc := 25) hC dX12_addPiece_25 rfl ?_
    
    refine x_getI (pc := 26) hC gf_X12_151 dX12_addPiece_26 M.1 ?_
    rw [e1]
    refine x_iload_n (pc := 29) hC dX12_addPiece_29 rfl ?_
    refine x_iast (pc := 30) hC dX12_addPiece_30 (mo_outTo M).2.1 (by omega) (by rw [(mo_outTo M).2.2]; omega) ?_
    refine x_aload_n (pc := 31) hC dX12_addPiece_31 rfl ?_
    refine x_getO (pc := 32) hC gf_X12_43 dX12_addPiece_32 M.1 (mo_inFrom M).1 ?_
    refine x_aload_n (pc := 35) hC dX12_addPiece_35 rfl ?_
    refine x_getI (pc := 36) hC gf_X12_151 dX12_addPiece_36 M.1 ?_
    rw [e2]
    refine x_iload_n (pc := 39) hC dX12_addPiece_39 rfl ?_
    refine x_iast (pc := 40) hC dX12_addPiece_40 (mo_inFrom M).2.1 (by omega) (by rw [(mo_inFrom M).2.2]; omega) ?_
    refine x_aload_n (pc := 41) hC dX12_addPiece_41 rfl ?_
    refine x_getO (pc := 42) hC gf_X12_46 dX12_addPiece_42 M.1 (mo_inTo M).1 ?_
    refine x_aload_n (pc := 45) hC dX12_addPiece_45 rfl ?_
    refine x_getI (pc := 46) hC gf_X12_151 dX12_addPiece_46 M.1 ?_
    rw [e3]
    refine x_iload (pc := 49) hC dX12_addPiece_49 rfl ?_
    refine x_iast (pc := 51) hC dX12_addPiece_51 (mo_inTo M).2.1 (by omega) (by rw [(mo_inTo M).2.2]; omega) ?_
    refine x_aload_n (pc := 52) hC dX12_addPiece_52 rfl ?_
    refine x_dup (pc := 53) hC dX12_addPiece_53 rfl ?_
    refine x_getI (pc := 54) hC gf_X12_151 dX12_addPiece_54 M.1 ?_
    rw [e4]
    refine x_iconst (pc := 57) hC dX12_addPiece_57 ?_
    refine x_iadd (pc := 58) hC dX12_addPiece_58 ?_
    refine x_putI (pc := 59) hC pf_X12_151 dX12_addPiece_59 M.1 (by decide) ?_
    refine x_vret (pc := 62) hC rfl dX12_addPiece_62 ?_
    exact ⟨rfl, rfl, rfl, by rw [if_pos hh], rfl, rfl⟩
  refine x_iload_n (pc := 0) hC dX12_addPiece_0 rfl ?_
  refine x_iload_n (pc := 1) hC dX12_addPiece_1 rfl ?_
  refine x_icmp_lt (pc := 2) hC 11 dX12_addPiece_2 (by decide) (by omega) (by omega) (fun b2 => ?_) (fun b2 => ?_)
  · exact go (by omega)
  · refine x_iload_n (pc := 5) hC dX12_addPiece_5 rfl ?_
    refine x_iload (pc := 6) hC dX12_addPiece_6 rfl ?_
    refine x_icmp_ge (pc := 8) hC 62 dX12_addPiece_8 (by decide) (by omega) (by omega) (fun b8 => ?_) (fun b8 => ?_)
    · refine x_vret (pc := 62) hC rfl dX12_addPiece_62 ?_
      exact ⟨rfl, rfl, rfl, by rw [if_neg (by omega)], rfl, rfl⟩
    · exact go (by omega)

set_option maxHeartbeats 4000000 in
set_option maxRecDepth 100000 in
theorem m_addPiece0 {G : ax_G} {T : Nat → Nat} {N : Nat → Int} {I : Nat → Int → Int} {R : Nat → Int → Option Nat} {z o : Nat} (M : axMo T N R o) {i ie j je : Int} (hi : ax_r i) (hie : ax_r ie) (hj : ax_r j) (hje : ax_r je) (hh : ¬ (i < ie ∨ j < je)) : axE G YX12_addPiece 0 [vR o, vI i, vI ie, vI j, vI je] T N I R z none I := by

  refine ax_enter (by decide) (Nat.le_of_ble_eq_true rfl) (ax_cat rfl) (fun f hC => ?_)
  show axX G f 0 0 _ 0 [vR o, vI i, vI ie, vI j, vI je] [] T N I R z 0 0
  refine x_iload_n (pc := 0) hC dX12_addPiece_0 rfl ?_
  refine x_iload_n (pc := 1) hC dX12_addPiece_1 rfl ?_
  refine x_icmp_lt (pc := 2) hC 11 dX12_addPiece_2 (by decide) (by omega) (by omega) (fun b2 => ?_) (fun b2 => ?_)
  · omega
  · refine x_iload_n (pc := 5) hC dX12_addPiece_5 rfl ?_
    refine x_iload (pc := 6) hC dX12_addPiece_6 rfl ?_
    refine x_icmp_ge (pc := 8) hC 62 dX12_addPiece_8 (by decide) (by omega) (by omega) (fun b8 => ?_) (fun b8 => ?_)
    · refine x_vret (pc := 62) hC rfl dX12_addPiece_62 ?_
      exact ⟨rfl, rfl, rfl, rfl, rfl, rfl⟩
    · omega

set_option maxHeartbeats 4000000 in
set_option maxRecDepth 100000 in
theorem m_change {G : ax_G} {T : Nat → Nat} {N : Nat → Int} {I : Nat → Int → Int} {R : Nat → Int → Option Nat} {z o : Nat} (M : axMo T N R o) {c : Int} (hl : lnOk I o) (hc : 0 ≤ c ∧ c < 24) (hup : c ≠ 0 → 0 ≤ I (o + 2) c ∧ I (o + 2) c < 24) : axEx G YX12_change 3 [vR o, vI c] T N I R z (fun r1 I1 => r1 = none ∧ frP I I1 o ∧ (I1 o 13) = (pcsC I o c).length ∧ pcM I1 o (pcsC I o c)) := by

  refine ax_enter (by decide) (Nat.le_of_ble_eq_true rfl) (ax_cat rfl) (fun f hC => ?_)
  show axX G f 0 0 _ 0 [vR o, vI c, vU, vU, vU, vU] [] T N I R z 0 0
  by_cases hc0 : c = 0
  · refine x_aload_n (pc := 0) hC dX12_change_0 rfl ?_
    refine x_iconst (pc := 1) hC dX12_change_1 ?_
    refine x_putI (pc := 2) hC pf_X12_151 dX12_change_2 M.1 (by decide) ?_
    refine x_iload_n (pc := 5) hC dX12_change_5 rfl ?_
    refine x_if_ne (pc := 6) hC 10 dX12_change_6 (by decide) (by omega) (fun b6 => ?_) (fun b6 => ?_)
    · contradiction
    · refine x_vret (pc := 9) hC rfl dX12_change_9 ?_
      exact ⟨⟨rfl, ⟨fun q a1 a2 => axu_row a1, fun k a1 => axu_j a1⟩, by rw [axu_s]; simp [pcsC, hc0], fun k q hk => by simp [pcsC, hc0] at hk⟩, rfl, rfl, rfl, rfl⟩
  · obtain ⟨up, hu⟩ : ∃ up, up = I (o + 2) c := ⟨_, rfl⟩
    obtain ⟨na, hna⟩ : ∃ na, na = I (o + 6) up := ⟨_, rfl⟩
    obtain ⟨nb, hnb⟩ : ∃ nb, nb = I (o + 6) c := ⟨_, rfl⟩
    have hup := hup hc0
    rw [← hu] at hup
    have hla := hl.2 up
    have hlb := hl.2 c
    rw [← hna] at hla
    rw [← hnb] at hlb
    have hpl : pcsC I o c = pcsL (mtP (rwI I o up) (rwI I o c) na nb) na nb na.toNat 0 0 0 := by
      unfold pcsC pcsOf
      rw [if_neg hc0, ← hu, ← hna, ← hnb]
    have hpo := pcsC_ok hl c
    have loop : ∀ (n : Nat) (x i j : Int) (J : Nat → Int → Int) (pre : List (Int × Int × Int × Int)), (na - x).toNat = n → 0 ≤ i → i ≤ x → x ≤ na → j = (mtS (rwI I o up) (rwI I o c) na nb x.toNat).2 → frP I J o → (∀ i, 0 ≤ i → i < na → J (o + 9) i = (mtP (rwI I o up) (rwI I o c) na nb) i) → (J o 13) = pre.length → pcM J o pre → pcsC I o c = pre ++ pcsL (mtP (rwI I o up) (rwI I o c) na nb) na nb n x i j → axX G f 0 0 (fun r1 T1 N1 I1 R1 z1 => (r1 = none ∧ frP I I1 o ∧ (I1 o 13) = (pcsC I o c).length ∧ pcM I1 o (pcsC I o c)) ∧ T1 = T ∧ N1 = N ∧ R1 = R ∧ z1 = z) 32 [vR o, vI c, vI up, vI i, vI j, vI x] [] T N J R z 0 0 := by
      intro n
      induction n with
      | zero =>
        intro x i j J pre hn h0 h1 h2 hj hf hpr hpc hpm hfull
        have hf2 := mtS_f (rwI I o up) (rwI I o c) (na := na) (nb := nb) (by omega) x.toNat
        rw [← hj] at hf2
        have hsu : J (o + 6) up = na := by rw [hf.1 (o + 6) (by omega) (by omega)]; exact hna.symm
        have hsc : J (o + 6) c = nb := by rw [hf.1 (o + 6) (by omega) (by omega)]; exact hnb.symm
        refine x_iload (pc := 32) hC dX12_change_32 rfl ?_
        refine x_aload_n (pc := 34) hC dX12_change_34 rfl ?_
        refine x_getO (pc := 35) hC gf_X12_25 dX12_change_35 M.1 (mo_size M).1 ?_
        refine x_iload_n (pc := 38) hC dX12_change_38 rfl ?_
        refine x_iald (pc := 39) hC dX12_change_39 (mo_size M).2.1 (by omega) (by rw [(mo_size M).2.2]; omega) ?_
        refine x_icmp_ge (pc := 40) hC 93 dX12_change_40 (by decide) (by omega) (by omega) (fun b40 => ?_) (fun b40 => ?_)
        · have hxx : x = na := by omega
          by_cases hadd : i < na ∨ j < nb
          · have hlen : pre.length + 1 ≤ 17 := by
              have h9 := hpo.2.1
              rw [hfull] at h9
              simp only [pcsL, if_pos hadd, List.length_append, List.length_cons, List.length_nil] at h9
              omega
            refine x_aload_n (pc := 93) hC dX12_change_93 rfl ?_
            refine x_iload_n (pc := 94) hC dX12_change_94 rfl ?_
            refine x_aload_n (pc := 95) hC dX12_change_95 rfl ?_
            refine x_getO (pc := 96) hC gf_X12_25 dX12_change_96 M.1 (mo_size M).1 ?_
            refine x_iload_n (pc := 99) hC dX12_change_99 rfl ?_
            refine x_iald (pc := 100) hC dX12_change_100 (mo_size M).2.1 (by omega) (by rw [(mo_size M).2.2]; omega) ?_
            refine x_iload (pc := 101) hC dX12_change_101 rfl ?_
            refine x_aload_n (pc := 103) hC dX12_change_103 rfl ?_
            refine x_getO (pc := 104) hC gf_X12_25 dX12_change_104 M.1 (mo_size M).1 ?_
            refine x_iload_n (pc := 107) hC dX12_change_107 rfl ?_
            refine x_iald (pc := 108) hC dX12_change_108 (mo_size M).2.1 (by omega) (by rw [(mo_size M).2.2]; omega) ?_
            refine x_mV (pc := 109) hC cv_X12_158 dX12_change_109 (m_addPiece M (by omega) (by omega) (by omega) (by omega) (by omega)) M.1 rfl (by decide) rfl rfl (Nat.le_of_ble_eq_true rfl) ?_
            dsimp only [Option.toList, List.nil_append]
            rw [hsu, hsc, if_pos hadd]
            refine x_vret (pc := 112) hC rfl dX12_change_112 ?_
            refine ⟨⟨rfl, hf.tr apI_fr, ?_, ?_⟩, rfl, rfl, rfl, rfl⟩
            · rw [apI_p, hfull, hpc]; simp [pcsL, hadd]
            · have h8 := apI_pcM (i := i) (ie := na) (j := j) (je := nb) hpm hpc
              rw [hfull]
              simp only [pcsL, if_pos hadd]
              exact h8
          · refine x_aload_n (pc := 93) hC dX12_change_93 rfl ?_
            refine x_iload_n (pc := 94) hC dX12_change_94 rfl ?_
            refine x_aload_n (pc := 95) hC dX12_change_95 rfl ?_
            refine x_getO (pc := 96) hC gf_X12_25 dX12_change_96 M.1 (mo_size M).1 ?_
            refine x_iload_n (pc := 99) hC dX12_change_99 rfl ?_
            refine x_iald (pc := 100) hC dX12_change_100 (mo_size M).2.1 (by omega) (by rw [(mo_size M).2.2]; omega) ?_
            refine x_iload (pc := 101) hC dX12_change_101 rfl ?_
            refine x_aload_n (pc := 103) hC dX12_change_103 rfl ?_
            refine x_getO (pc := 104) hC gf_X12_25 dX12_change_104 M.1 (mo_size M).1 ?_
            refine x_iload_n (pc := 107) hC dX12_change_107 rfl ?_
            refine x_iald (pc := 108) hC dX12_change_108 (mo_size M).2.1 (by omega) (by rw [(mo_size M).2.2]; omega) ?_
            refine x_mV (pc := 109) hC cv_X12_158 dX12_change_109 (m_addPiece0 M (by omega) (by omega) (by omega) (by omega) (by omega)) M.1 rfl (by decide) rfl rfl (Nat.le_of_ble_eq_true rfl) ?_
            dsimp only [Option.toList, List.nil_append]
            refine x_vret (pc := 112) hC rfl dX12_change_112 ?_
            refine ⟨⟨rfl, hf, ?_, ?_⟩, rfl, rfl, rfl, rfl⟩
            · rw [hfull, hpc]; simp [pcsL, hadd]
            · rw [hfull]
              simp only [pcsL, if_neg hadd, List.append_nil]
              exact hpm
        · omega
      | succ n ih =>
        intro x i j J pre hn h0 h1 h2 hj hf hpr hpc hpm hfull
        have hf2 := mtS_f (rwI I o up) (rwI I o c) (na := na) (nb := nb) (by omega) x.toNat
        rw [← hj] at hf2
        have hsu : J (o + 6) up = na := by rw [hf.1 (o + 6) (by omega) (by omega)]; exact hna.symm
        have hpx := hpr x (by omega) (by omega)
        have hpq := mtP_r (rwI I o up) (rwI I o c) (na := na) (nb := nb) x (by omega)
        have hms := mtS_s (a := rwI I o up) (b := rwI I o c) (na := na) (nb := nb) (i := x) (by omega)
        rw [← hj] at hpq
        simp only [pcsL] at hfull
        refine x_iload (pc := 32) hC dX12_change_32 rfl ?_
        refine x_aload_n (pc := 34) hC dX12_change_34 rfl ?_
        refine x_getO (pc := 35) hC gf_X12_25 dX12_change_35 M.1 (mo_size M).1 ?_
        refine x_iload_n (pc := 38) hC dX12_change_38 rfl ?_
        refine x_iald (pc := 39) hC dX12_change_39 (mo_size M).2.1 (by omega) (by rw [(mo_size M).2.2]; omega) ?_
        refine x_icmp_ge (pc := 40) hC 93 dX12_change_40 (by decide) (by omega) (by omega) (fun b40 => ?_) (fun b40 => ?_)
        · omega
        · refine x_aload_n (pc := 43) hC dX12_change_43 rfl ?_
          refine x_getO (pc := 44) hC gf_X12_34 dX12_change_44 M.1 (mo_pair M).1 ?_
          refine x_iload (pc := 47) hC dX12_change_47 rfl ?_
          refine x_iald (pc := 49) hC dX12_change_49 (mo_pair M).2.1 (by omega) (by rw [(mo_pair M).2.2]; omega) ?_
          refine x_bipush (pc := 50) hC dX12_change_50 (by decide) ?_
          refine x_icmp_eq (pc := 52) hC 87 dX12_change_52 (by decide) (by omega) (by omega) (fun b52 => ?_) (fun b52 => ?_)
          · refine x_iinc (pc := 87) hC dX12_change_87 rfl ?_
            dsimp only [List.set]
            refine x_goto (pc := 90) hC 32 dX12_change_90 (by decide) ?_
            rw [if_pos (by omega)] at hfull
            rw [if_pos (by omega)] at hms
            exact ih (x + 1) i j J pre (by omega) h0 (by omega) (by omega) (by rw [hms]; exact hj) hf hpr hpc hpm hfull
          · have hne : ¬ (mtP (rwI I o up) (rwI I o c) na nb) x = -9 := by omega
            rw [if_neg hne] at hfull hms
            have hq2 : j ≤ (mtP (rwI I o up) (rwI I o c) na nb) x ∧ (mtP (rwI I o up) (rwI I o c) na nb) x < nb := by omega
            by_cases hadd : i < x ∨ j < (mtP (rwI I o up) (rwI I o c) na nb) x
            · rw [if_pos hadd, ← List.append_assoc] at hfull
              have hlen : pre.length + 1 ≤ 17 := by
                have h9 := hpo.2.1
                rw [hfull, List.length_append, List.length_append] at h9
                simp only [List.length_cons, List.length_nil] at h9
                omega
              refine x_aload_n (pc := 55) hC dX12_change_55 rfl ?_
              refine x_iload_n (pc := 56) hC dX12_change_56 rfl ?_
              refine x_iload (pc := 57) hC dX12_change_57 rfl ?_
              refine x_iload (pc := 59) hC dX12_change_59 rfl ?_
              refine x_aload_n (pc := 61) hC dX12_change_61 rfl ?_
              refine x_getO (pc := 62) hC gf_X12_34 dX12_change_62 M.1 (mo_pair M).1 ?_
              refine x_iload (pc := 65) hC dX12_change_65 rfl ?_
              refine x_iald (pc := 67) hC dX12_change_67 (mo_pair M).2.1 (by omega) (by rw [(mo_pair M).2.2]; omega) ?_
              refine x_mV (pc := 68) hC cv_X12_158 dX12_change_68 (m_addPiece M (by omega) (by omega) (by omega) (by omega) (by omega)) M.1 rfl (by decide) rfl rfl (Nat.le_of_ble_eq_true rfl) ?_
              dsimp only [Option.toList, List.nil_append]
              rw [hpx, if_pos hadd]
              have hpxK : apI J o i x j ((mtP (rwI I o up) (rwI I o c) na nb) x) (o + 9) x = (mtP (rwI I o up) (rwI I o c) na nb) x := by unfold apI; rw [axu_a (by omega), axu_a (by omega), axu_a (by omega), axu_a (by omega), axu_a (by omega)]; exact hpx
              refine x_iload (pc := 71) hC dX12_change_71 rfl ?_
              refine x_iconst (pc := 73) hC dX12_change_73 ?_
              refine x_iadd (pc := 74) hC dX12_change_74 ?_
              refine x_istore_n (pc := 75) hC dX12_change_75 (Nat.le_of_ble_eq_true rfl) ?_
              dsimp only [List.set]
              refine x_aload_n (pc := 76) hC dX12_change_76 rfl ?_
              refine x_getO (pc := 77) hC gf_X12_34 dX12_change_77 M.1 (mo_pair M).1 ?_
              refine x_iload (pc := 80) hC dX12_change_80 rfl ?_
              refine x_iald (pc := 82) hC dX12_change_82 (mo_pair M).2.1 (by omega) (by rw [(mo_pair M).2.2]; omega) ?_
              refine x_iconst (pc := 83) hC dX12_change_83 ?_
              refine x_iadd (pc := 84) hC dX12_change_84 ?_
              refine x_istore (pc := 85) hC dX12_change_85 (Nat.le_of_ble_eq_true rfl) ?_
              dsimp only [List.set]
              refine x_iinc (pc := 87) hC dX12_change_87 rfl ?_
              dsimp only [List.set]
              refine x_goto (pc := 90) hC 32 dX12_change_90 (by decide) ?_
              rw [hpxK]
              refine ih (x + 1) (x + 1) _ (apI J o i x j ((mtP (rwI I o up) (rwI I o c) na nb) x)) (pre ++ [(i, x, j, (mtP (rwI I o up) (rwI I o c) na nb) x)]) (by omega) (by omega) (by omega) (by omega) (by rw [hms]) (hf.tr apI_fr) (fun i' a1 a2 => ?_) ?_ (apI_pcM hpm hpc) hfull
              · unfold apI
                rw [axu_a (by omega), axu_a (by omega), axu_a (by omega), axu_a (by omega), axu_a (by omega)]
                exact hpr i' a1 a2
              · rw [apI_p, hpc]; simp
            · rw [if_neg hadd, List.nil_append] at hfull
              refine x_aload_n (pc := 55) hC dX12_change_55 rfl ?_
              refine x_iload_n (pc := 56) hC dX12_change_56 rfl ?_
              refine x_iload (pc := 57) hC dX12_change_57 rfl ?_
              refine x_iload (pc := 59) hC dX12_change_59 rfl ?_
              refine x_aload_n (pc := 61) hC dX12_change_61 rfl ?_
              refine x_getO (pc := 62) hC gf_X12_34 dX12_change_62 M.1 (mo_pair M).1 ?_
              refine x_iload (pc := 65) hC dX12_change_65 rfl ?_
              refine x_iald (pc := 67) hC dX12_change_67 (mo_pair M).2.1 (by omega) (by rw [(mo_pair M).2.2]; omega) ?_
              refine x_mV (pc := 68) hC cv_X12_158 dX12_change_68 (m_addPiece0 M (by omega) (by omega) (by omega) (by omega) (by omega)) M.1 rfl (by decide) rfl rfl (Nat.le_of_ble_eq_true rfl) ?_
              dsimp only [Option.toList, List.nil_append]
              refine x_iload (pc := 71) hC dX12_change_71 rfl ?_
              refine x_iconst (pc := 73) hC dX12_change_73 ?_
              refine x_iadd (pc := 74) hC dX12_change_74 ?_
              refine x_istore_n (pc := 75) hC dX12_change_75 (Nat.le_of_ble_eq_true rfl) ?_
              dsimp only [List.set]
              refine x_aload_n (pc := 76) hC dX12_change_76 rfl ?_
              refine x_getO (pc := 77) hC gf_X12_34 dX12_change_77 M.1 (mo_pair M).1 ?_
              refine x_iload (pc := 80) hC dX12_change_80 rfl ?_
              refine x_iald (pc := 82) hC dX12_change_82 (mo_pair M).2.1 (by omega) (by rw [(mo_pair M).2.2]; omega) ?_
              refine x_iconst (pc := 83) hC dX12_change_83 ?_
              refine x_iadd (pc := 84) hC dX12_change_84 ?_
              refine x_istore (pc := 85) hC dX12_change_85 (Nat.le_of_ble_eq_true rfl) ?_
              dsimp only [List.set]
              refine x_iinc (pc := 87) hC dX12_change_87 rfl ?_
              dsimp only [List.set]
              refine x_goto (pc := 90) hC 32 dX12_change_90 (by decide) ?_
              rw [hpx]
              exact ih (x + 1) (x + 1) _ J pre (by omega) (by omega) (by omega) (by omega) (by rw [hms]) hf hpr hpc hpm hfull
    refine x_aload_n (pc := 0) hC dX12_change_0 rfl ?_
    refine x_iconst (pc := 1) hC dX12_change_1 ?_
    refine x_putI (pc := 2) hC pf_X12_151 dX12_change_2 M.1 (by decide) ?_
    refine x_iload_n (pc := 5) hC dX12_change_5 rfl ?_
    refine x_if_ne (pc := 6) hC 10 dX12_change_6 (by decide) (by omega) (fun _ => ?_) (fun b6 => absurd b6 hc0)
    refine x_aload_n (pc := 10) hC dX12_change_10 rfl ?_
    refine x_getO (pc := 11) hC gf_X12_13 dX12_change_11 M.1 (mo_parent M).1 ?_
    refine x_iload_n (pc := 14) hC dX12_change_14 rfl ?_
    refine x_iald (pc := 15) hC dX12_change_15 (mo_parent M).2.1 (by omega) (by rw [(mo_parent M).2.2]; omega) ?_
    rw [axu_row (show o + 2 ≠ o by omega), ← hu]
    refine x_istore_n (pc := 16) hC dX12_change_16 (Nat.le_of_ble_eq_true rfl) ?_
    dsimp only [List.set]
    have hl0 : lnOk (ax_u I o 13 0) o := by unfold lnOk; rw [axu_row (show o + 5 ≠ o by omega), axu_row (show o + 6 ≠ o by omega)]; exact hl
    refine x_aload_n (pc := 17) hC dX12_change_17 rfl ?_
    refine x_iload_n (pc := 18) hC dX12_change_18 rfl ?_
    refine x_iload_n (pc := 19) hC dX12_change_19 rfl ?_
    refine x_iconst (pc := 20) hC dX12_change_20 ?_
    refine x_mVx (pc := 21) hC cv_X12_154 dX12_change_21 (m_pairs (l := 0) (na := na) (nb := nb) M hl0 (by omega) (by omega) (Or.inl rfl) (by rw [axu_row (show o + 6 ≠ o by omega)]; exact hna.symm) (by rw [axu_row (show o + 6 ≠ o by omega)]; exact hnb.symm)) M.1 rfl (by decide) rfl rfl (Nat.le_of_ble_eq_true rfl) ?_
    rintro v J ⟨rfl, hJ, -, hpr⟩
    dsimp only [Option.toList, List.nil_append]
    have eR : ∀ q, rwI (ax_u I o 13 0) o q = rwI I o q := fun q => by funext i; simp only [rwI]; rw [axu_row (show o + 5 ≠ o by omega)]
    rw [eR, eR] at hpr
    refine x_iconst (pc := 24) hC dX12_change_24 ?_
    refine x_istore_n (pc := 25) hC dX12_change_25 (Nat.le_of_ble_eq_true rfl) ?_
    dsimp only [List.set]
    refine x_iconst (pc := 26) hC dX12_change_26 ?_
    refine x_istore (pc := 27) hC dX12_change_27 (Nat.le_of_ble_eq_true rfl) ?_
    dsimp only [List.set]
    refine x_iconst (pc := 29) hC dX12_change_29 ?_
    refine x_istore (pc := 30) hC dX12_change_30 (Nat.le_of_ble_eq_true rfl) ?_
    dsimp only [List.set]
    refine loop na.toNat 0 0 0 J [] (by omega) (by omega) (by omega) (by omega) (by rw [mtS_0]) ⟨fun q a1 a2 => ?_, fun k a1 => ?_⟩ (fun i a1 a2 => by have := hpr i a1 a2; rw [← this]; congr 1; omega) ?_ (fun k q hk => by simp at hk) (by rw [hpl]; rfl)
    · rw [hJ q (by omega) (by omega), axu_row a1]
    · rw [hJ o (by omega) (by omega), axu_j a1]
    · rw [hJ o (by omega) (by omega), axu_s]; rfl

