/-! the shape of a conflict, and its resolution -/
theorem shFold_pre : ∀ (p : List Int) (s : List Int × List Int), ∃ r, (p.foldl shStep s).1 = s.1 ++ r := by
  intro p
  induction p with
  | nil => intro s; exact ⟨[], by simp⟩
  | cons v p ih =>
    intro s
    obtain ⟨r, hr⟩ := ih (shStep s v)
    exact ⟨[(nix s.2 v : Int)] ++ r, by rw [List.foldl_cons, hr]; simp [shStep]⟩
theorem shFold_cong : ∀ (p p' : List Int) (s s' : List Int × List Int), p.length = p'.length → s.2.length = s'.2.length → s.1.length = s'.1.length → (p.foldl shStep s).1 = (p'.foldl shStep s').1 → (p.foldl shStep s).2.length = (p'.foldl shStep s').2.length := by
  intro p
  induction p with
  | nil =>
    intro p' s s' h1 h2 h3 h4
    cases p' with
    | nil => exact h2
    | cons => simp at h1
  | cons v p ih =>
    intro p' s s' h1 h2 h3 h4
    cases p' with
    | nil => simp at h1
    | cons v' p' =>
      simp only [List.foldl_cons] at h4 ⊢
      have hl : (shStep s v).1.length = (shStep s' v').1.length := by simp [shStep, h3]
      have h5 : (shStep s v).1 = (shStep s' v').1 := by
        obtain ⟨r, hr⟩ := shFold_pre p (shStep s v)
        obtain ⟨r', hr'⟩ := shFold_pre p' (shStep s' v')
        rw [hr, hr'] at h4
        exact (List.append_inj h4 hl).1
      have h6 : nix s.2 v = nix s'.2 v' := by
        simp only [shStep] at h5
        have := (List.append_inj h5 h3).2
        simp at this
        omega
      refine ih p' _ _ (by simpa using h1) ?_ hl h4
      simp only [shStep]
      by_cases hv : v ∈ s.2
      · have a1 := nix_lt _ _ hv
        have hv' : v' ∈ s'.2 := by
          by_cases q : v' ∈ s'.2
          · exact q
          · have := nix_no _ _ q; omega
        rw [if_pos hv, if_pos hv']; exact h2
      · have a1 := nix_no _ _ hv
        have hv' : v' ∉ s'.2 := fun q => by have := nix_lt _ _ q; omega
        rw [if_neg hv, if_neg hv']; simp [h2]
theorem shPart_cong {s s' : List Int × List Int} {p p' : List Int} (h2 : s.2.length = s'.2.length) (h3 : s.1.length = s'.1.length) (h : ∃ r r', (shPart s p).1 ++ r = (shPart s' p').1 ++ r') : p.length = p'.length ∧ (shPart s p).1 = (shPart s' p').1 ∧ (shPart s p).2.length = (shPart s' p').2.length := by
  obtain ⟨r, r', h⟩ := h
  obtain ⟨t, ht⟩ := shFold_pre p (s.1 ++ [(p.length : Int)], s.2)
  obtain ⟨t', ht'⟩ := shFold_pre p' (s'.1 ++ [(p'.length : Int)], s'.2)
  have hp : p.length = p'.length := by
    have h9 := h
    simp only [shPart] at h9
    rw [ht, ht'] at h9
    simp only [List.append_assoc] at h9
    have := (List.append_inj h9 h3).2
    simp at this
    have := this.1
    omega
  have hl : (shPart s p).1.length = (shPart s' p').1.length := by rw [(shPart_l s p).1, (shPart_l s' p').1]; omega
  have he := (List.append_inj h hl).1
  exact ⟨hp, he, shFold_cong p p' _ _ hp h2 (by simp [h3]) he⟩
theorem shPart_pre (s : List Int × List Int) (p : List Int) : ∃ r, (shPart s p).1 = s.1 ++ r := by
  obtain ⟨r, hr⟩ := shFold_pre p (s.1 ++ [(p.length : Int)], s.2)
  exact ⟨[(p.length : Int)] ++ r, by simp only [shPart]; rw [hr]; simp⟩
/-- the same shape has as many names -/
theorem shpSeq_names {B X Y B' X' Y' : List Int} (h : (shpSeq B X Y).1 = (shpSeq B' X' Y').1) : (shpSeq B X Y).2.length = (shpSeq B' X' Y').2.length := by
  have f1 : ∃ r, (shpSeq B X Y).1 = (shPart ([], []) B).1 ++ r := by
    obtain ⟨r1, h1⟩ := shPart_pre (shPart ([], []) B) X
    obtain ⟨r2, h2⟩ := shPart_pre (shPart (shPart ([], []) B) X) Y
    exact ⟨r1 ++ r2, by unfold shpSeq; rw [h2, h1]; simp⟩
  have f2 : ∃ r, (shpSeq B' X' Y').1 = (shPart ([], []) B').1 ++ r := by
    obtain ⟨r1, h1⟩ := shPart_pre (shPart ([], []) B') X'
    obtain ⟨r2, h2⟩ := shPart_pre (shPart (shPart ([], []) B') X') Y'
    exact ⟨r1 ++ r2, by unfold shpSeq; rw [h2, h1]; simp⟩
  obtain ⟨r, hr⟩ := f1
  obtain ⟨r', hr'⟩ := f2
  have a := shPart_cong (s := ([], [])) (s' := ([], [])) (p := B) (p' := B') rfl rfl ⟨r, r', by rw [← hr, ← hr', h]⟩
  obtain ⟨q, hq⟩ := shPart_pre (shPart (shPart ([], []) B) X) Y
  obtain ⟨q', hq'⟩ := shPart_pre (shPart (shPart ([], []) B') X') Y'
  have b := shPart_cong (s := shPart ([], []) B) (s' := shPart ([], []) B') (p := X) (p' := X') a.2.2 (by rw [a.2.1]) ⟨q, q', by unfold shpSeq at h; rw [← hq, ← hq', h]⟩
  have c := shPart_cong (s := shPart (shPart ([], []) B) X) (s' := shPart (shPart ([], []) B') X') (p := Y) (p' := Y') b.2.2 (by rw [b.2.1]) ⟨[], [], by unfold shpSeq at h; rw [List.append_nil, List.append_nil]; exact h⟩
  exact c.2.2
theorem shFold_r : ∀ (p : List Int) (s : List Int × List Int), s.2.length + p.length ≤ 48 → (∀ v ∈ s.1, 0 ≤ v ∧ v ≤ 48) → ∀ v ∈ (p.foldl shStep s).1, 0 ≤ v ∧ v ≤ 48 := by
  intro p
  induction p with
  | nil => intro s _ h; exact h
  | cons w p ih =>
    intro s hl hs
    simp only [List.length_cons] at hl
    have h2 := shStep_l s w
    refine ih (shStep s w) (by omega) ?_
    intro v hv
    simp only [shStep, List.mem_append, List.mem_singleton] at hv
    rcases hv with hv | hv
    · exact hs v hv
    · have := nix_le s.2 w; omega
theorem shPart_r {s : List Int × List Int} {p : List Int} (hl : s.2.length + p.length ≤ 48) (hs : ∀ v ∈ s.1, 0 ≤ v ∧ v ≤ 48) : ∀ v ∈ (shPart s p).1, 0 ≤ v ∧ v ≤ 48 := by
  refine shFold_r p _ hl ?_
  intro v hv
  simp only [List.mem_append, List.mem_singleton] at hv
  rcases hv with hv | hv
  · exact hs v hv
  · omega
theorem shpSeq_r {B X Y : List Int} (hl : B.length + X.length + Y.length ≤ 48) : ∀ v ∈ (shpSeq B X Y).1, 0 ≤ v ∧ v ≤ 48 := by
  have l1 := shPart_l ([], []) B
  have l2 := shPart_l (shPart ([], []) B) X
  simp only [List.length_nil] at l1
  exact shPart_r (by omega) (shPart_r (by omega) (shPart_r (by simp; omega) (fun v hv => by simp at hv)))
theorem lxF_01 : ∀ (a b : List Int), lxF a b = 0 ∨ lxF a b = 1 := by
  intro a
  induction a with
  | nil => intro b; left; simp [lxF]
  | cons x s ih =>
    intro b
    cases b with
    | nil => left; simp [lxF]
    | cons y t => simp only [lxF]; split
                  · exact ih t
                  · split <;> simp
def cShape (B O Th : List Int) : List Int × List Int := if lxF (shpSeq B O Th).1 (shpSeq B Th O).1 = 0 then shpSeq B O Th else shpSeq B Th O
def rsK (I : Nat → Int → Int) (o : Nat) (k : Int) : List Int := seg (I (o + 20)) (51 * k) (51 * k + I (o + 21) k)
def rsW (I : Nat → Int → Int) (o : Nat) (k : Int) : List Int := seg (I (o + 22)) (6 * k) (6 * k + I (o + 23) k)
/-- the resolutions -/
def rsL (I : Nat → Int → Int) (o : Nat) : List (List Int × List Int) := (List.range (I o 30).toNat).map (fun k : Nat => (rsK I o k, rsW I o k))
def rfind (rs : List (List Int × List Int)) (sh : List Int) : Option (List Int × List Int) := rs.find? (fun p => decide (p.1 = sh))
theorem rfind_some {I : Nat → Int → Int} {o : Nat} {sh : List Int} {k : Nat} (hk : (k : Int) < I o 30) (h1 : ∀ j : Nat, j < k → rsK I o j ≠ sh) (h2 : rsK I o k = sh) : rfind (rsL I o) sh = some (rsK I o k, rsW I o k) := by
  unfold rfind rsL
  rw [List.find?_map]
  have : (List.range (I o 30).toNat).find? ((fun p : List Int × List Int => decide (p.1 = sh)) ∘ fun k : Nat => (rsK I o k, rsW I o k)) = some k := by
    rw [List.find?_range_eq_some]
    refine ⟨by simp [h2], List.mem_range.mpr (by omega), fun j hj => ?_⟩
    simp [h1 j hj]
  rw [this]
  rfl
theorem rfind_none {I : Nat → Int → Int} {o : Nat} {sh : List Int} (h1 : ∀ j : Nat, (j : Int) < I o 30 → rsK I o j ≠ sh) : rfind (rsL I o) sh = none := by
  unfold rfind rsL
  rw [List.find?_map]
  have : (List.range (I o 30).toNat).find? ((fun p : List Int × List Int => decide (p.1 = sh)) ∘ fun k : Nat => (rsK I o k, rsW I o k)) = none := by
    rw [List.find?_range_eq_none]
    intro j hj
    simp [h1 j (by omega)]
  rw [this]
  rfl
/-- what always holds of the resolutions -/
def rwOk (sh row : List Int) : Prop := row.length ≤ 6 ∧ ∃ B X Y : List Int, B.length + X.length + Y.length ≤ 48 ∧ sh = (shpSeq B X Y).1 ∧ ∀ v ∈ row, (0 ≤ v ∧ v < (shpSeq B X Y).2.length) ∨ (100 ≤ v ∧ v < 200)
def miR (I : Nat → Int → Int) (o : Nat) : Prop := (0 ≤ I o 30 ∧ I o 30 ≤ 8) ∧ (∀ j, 0 ≤ I (o + 20) j ∧ I (o + 20) j < 100) ∧ (∀ k, 0 ≤ I (o + 21) k ∧ I (o + 21) k ≤ 51) ∧ (∀ j, 0 ≤ I (o + 22) j ∧ I (o + 22) j < 200) ∧ (∀ k, 0 ≤ I (o + 23) k ∧ I (o + 23) k ≤ 6) ∧ ∀ k, 0 ≤ k → k < I o 30 → rwOk (rsK I o k) (rsW I o k)
def agF (B J : Nat → Int → Int) (o : Nat) : Prop := (∀ q, q ≠ o → q ≠ o + 17 → q ≠ o + 18 → q ≠ o + 19 → J q = B q) ∧ ∀ k, k ≠ 28 → k ≠ 29 → J o k = B o k
theorem agS.agF {B J : Nat → Int → Int} {o : Nat} {l : Int} (h : agS B J o l) : agF B J o := ⟨fun q a b c d => h.1 q b c d, fun k _ _ => by rw [h.1 o (by omega) (by omega) (by omega)]⟩
theorem agF.tr {A B C : Nat → Int → Int} {o : Nat} (h1 : agF A B o) (h2 : agF B C o) : agF A C o := ⟨fun q a b c d => (h2.1 q a b c d).trans (h1.1 q a b c d), fun k a b => (h2.2 k a b).trans (h1.2 k a b)⟩
theorem agF.rf {B : Nat → Int → Int} {o : Nat} : agF B B o := ⟨fun _ _ _ _ _ => rfl, fun _ _ _ => rfl⟩

set_option maxHeartbeats 4000000 in
set_option maxRecDepth 100000 in
theorem m_shapeOf {G : ax_G} {T : Nat → Nat} {N : Nat → Int} {I : Nat → Int → Int} {R : Nat → Int → Option Nat} {z o : Nat} (M : axMo T N R o) {a b t at_ g0 g1 g2 g3 g4 g5 : Int} (hl : lnOk I o) (ha : 0 ≤ a ∧ a < 26) (hb : 0 ≤ b ∧ b < 26) (ht : 0 ≤ t ∧ t < 26) (hat : 0 ≤ at_ ∧ at_ ≤ 96) (e0 : I (o + 16) at_ = g0) (e1 : I (o + 16) (at_ + 1) = g1) (e2 : I (o + 16) (at_ + 2) = g2) (e3 : I (o + 16) (at_ + 3) = g3) (e4 : I (o + 16) (at_ + 4) = g4) (e5 : I (o + 16) (at_ + 5) = g5) (h0 : 0 ≤ g0 ∧ g0 ≤ g1 ∧ g1 ≤ 16) (h2 : 0 ≤ g2 ∧ g2 ≤ g3 ∧ g3 ≤ 16) (h4 : 0 ≤ g4 ∧ g4 ≤ g5 ∧ g5 ≤ 16) : axEx G YX12_shapeOf 2 [vR o, vI a, vI b, vI t, vI at_] T N I R z (fun r1 I1 => r1 = none ∧ agF I I1 o ∧ shM I1 o 0 (shpSeq (seg (rwI I o a) g0 g1) (seg (rwI I o b) g2 g3) (seg (rwI I o t) g4 g5)) ∧ shM I1 o 1 (shpSeq (seg (rwI I o a) g0 g1) (seg (rwI I o t) g4 g5) (seg (rwI I o b) g2 g3)) ∧ (I1 o 28) = (shpSeq (seg (rwI I o a) g0 g1) (seg (rwI I o b) g2 g3) (seg (rwI I o t) g4 g5)).1.length ∧ (I1 o 29) = lxF (shpSeq (seg (rwI I o a) g0 g1) (seg (rwI I o b) g2 g3) (seg (rwI I o t) g4 g5)).1 (shpSeq (seg (rwI I o a) g0 g1) (seg (rwI I o t) g4 g5) (seg (rwI I o b) g2 g3)).1) := by

  refine ax_enter (by decide) (Nat.le_of_ble_eq_true rfl) (ax_cat rfl) (fun f hC => ?_)
  show axX G f 0 0 _ 0 [vR o, vI a, vI b, vI t, vI at_, vU, vU, vU] [] T N I R z 0 0
  have lnk : ∀ J, agF I J o → lnOk J o := fun J h => lnOk_eq (h.1 (o + 5) (by omega) (by omega) (by omega) (by omega)) (h.1 (o + 6) (by omega) (by omega) (by omega) (by omega)) hl
  have rwk : ∀ {J} (c : Int), agF I J o → rwI J o c = rwI I o c := fun c h => rwI_eq (h.1 (o + 5) (by omega) (by omega) (by omega) (by omega)) c
  have gpk : ∀ J, agF I J o → J (o + 16) at_ = g0 ∧ J (o + 16) (at_ + 1) = g1 ∧ J (o + 16) (at_ + 2) = g2 ∧ J (o + 16) (at_ + 3) = g3 ∧ J (o + 16) (at_ + 4) = g4 ∧ J (o + 16) (at_ + 5) = g5 := fun J h => by
    rw [h.1 (o + 16) (by omega) (by omega) (by omega) (by omega)]
    exact ⟨e0, e1, e2, e3, e4, e5⟩
  have L0 := shpSeq_l (seg (rwI I o a) g0 g1) (seg (rwI I o b) g2 g3) (seg (rwI I o t) g4 g5)
  have L1 := shpSeq_l (seg (rwI I o a) g0 g1) (seg (rwI I o t) g4 g5) (seg (rwI I o b) g2 g3)
  have R0 := shpSeq_r (B := (seg (rwI I o a) g0 g1)) (X := (seg (rwI I o b) g2 g3)) (Y := (seg (rwI I o t) g4 g5)) (by simp only [seg_len]; omega)
  have R1 := shpSeq_r (B := (seg (rwI I o a) g0 g1)) (X := (seg (rwI I o t) g4 g5)) (Y := (seg (rwI I o b) g2 g3)) (by simp only [seg_len]; omega)
  simp only [seg_len] at L0 L1
  obtain ⟨s0, hs0⟩ : ∃ s, s = (shpSeq (seg (rwI I o a) g0 g1) (seg (rwI I o b) g2 g3) (seg (rwI I o t) g4 g5)).1 := ⟨_, rfl⟩
  obtain ⟨s1, hs1⟩ : ∃ s, s = (shpSeq (seg (rwI I o a) g0 g1) (seg (rwI I o t) g4 g5) (seg (rwI I o b) g2 g3)).1 := ⟨_, rfl⟩
  have hl0 : s0.length = (shpSeq (seg (rwI I o a) g0 g1) (seg (rwI I o b) g2 g3) (seg (rwI I o t) g4 g5)).1.length := by rw [hs0]
  have cmp : ∀ (K : Nat → Int → Int), agF I K o → shM K o 0 (shpSeq (seg (rwI I o a) g0 g1) (seg (rwI I o b) g2 g3) (seg (rwI I o t) g4 g5)) → shM K o 1 (shpSeq (seg (rwI I o a) g0 g1) (seg (rwI I o t) g4 g5) (seg (rwI I o b) g2 g3)) → (K o 28) = (shpSeq (seg (rwI I o a) g0 g1) (seg (rwI I o b) g2 g3) (seg (rwI I o t) g4 g5)).1.length → ∀ (n : Nat) (x : Int) (J : Nat → Int → Int) (c6 c7 : ax_V), (x + 1).toNat ≤ n → -1 ≤ x → x < s0.length → (∀ q, q ≠ o → J q = K q) → (∀ k, k ≠ 29 → J o k = K o k) → (J o 29) = lxF (s0.drop (x + 1).toNat) (s1.drop (x + 1).toNat) → axX G f 0 0 (fun r1 T1 N1 I1 R1 z1 => (r1 = none ∧ agF I I1 o ∧ shM I1 o 0 (shpSeq (seg (rwI I o a) g0 g1) (seg (rwI I o b) g2 g3) (seg (rwI I o t) g4 g5)) ∧ shM I1 o 1 (shpSeq (seg (rwI I o a) g0 g1) (seg (rwI I o t) g4 g5) (seg (rwI I o b) g2 g3)) ∧ (I1 o 28) = (shpSeq (seg (rwI I o a) g0 g1) (seg (rwI I o b) g2 g3) (seg (rwI I o t) g4 g5)).1.length ∧ (I1 o 29) = lxF (shpSeq (seg (rwI I o a) g0 g1) (seg (rwI I o b) g2 g3) (seg (rwI I o t) g4 g5)).1 (shpSeq (seg (rwI I o a) g0 g1) (seg (rwI I o t) g4 g5) (seg (rwI I o b) g2 g3)).1) ∧ T1 = T ∧ N1 = N ∧ R1 = R ∧ z1 = z) 208 [vR o, vI a, vI b, vI t, vI at_, vI x, c6, c7] [] T N J R z 0 0 := by
    intro K hK hA hB hsz n
    have e51 : ∀ k : Nat, k < s0.length → s0[k]? = some (K (o + 17) k) := fun k hk => by
      have := seg_get (f := K (o + 17)) (i := 51 * 0) (j := 51 * 0 + (shpSeq (seg (rwI I o a) g0 g1) (seg (rwI I o b) g2 g3) (seg (rwI I o t) g4 g5)).1.length) (k := k) (by rw [hs0] at hk; omega)
      rw [hA.1, ← hs0] at this
      rw [this]
      congr 2
      omega
    have e52 : ∀ k : Nat, k < s0.length → s1[k]? = some (K (o + 17) (51 + k)) := fun k hk => by
      have := seg_get (f := K (o + 17)) (i := 51 * 1) (j := 51 * 1 + (shpSeq (seg (rwI I o a) g0 g1) (seg (rwI I o t) g4 g5) (seg (rwI I o b) g2 g3)).1.length) (k := k) (by rw [hs0] at hk; omega)
      rw [hB.1, ← hs1] at this
      exact this
    induction n with
    | zero =>
      intro x J c6 c7 hn h1 h2 hJ hJo hf
      have hx : x = -1 := by omega
      refine x_iload (pc := 208) hC dX12_shapeOf_208 rfl ?_
      refine x_if_lt (pc := 210) hC 270 dX12_shapeOf_210 (by decide) (by omega) (fun b210 => ?_) (fun b210 => ?_)
      · refine x_vret (pc := 270) hC rfl dX12_shapeOf_270 ?_
        have hfin : (J o 29) = lxF (shpSeq (seg (rwI I o a) g0 g1) (seg (rwI I o b) g2 g3) (seg (rwI I o t) g4 g5)).1 (shpSeq (seg (rwI I o a) g0 g1) (seg (rwI I o t) g4 g5) (seg (rwI I o b) g2 g3)).1 := by
          rw [hf, hs0, hs1]
          have : (x + 1).toNat = 0 := by omega
          first | rw [this] | skip
          rfl
        refine ⟨⟨rfl, ?_, ?_, ?_, ?_, hfin⟩, rfl, rfl, rfl, rfl⟩
        · refine hK.tr ⟨fun q a b c d => hJ q a, fun k a b => hJo k b⟩
        · refine ⟨?_, ?_, ?_⟩
          · rw [hJ (o + 17) (by omega)]; exact hA.1
          · rw [hJ (o + 19) (by omega)]; exact hA.2.1
          · rw [hJ (o + 18) (by omega)]; exact hA.2.2
        · refine ⟨?_, ?_, ?_⟩
          · rw [hJ (o + 17) (by omega)]; exact hB.1
          · rw [hJ (o + 19) (by omega)]; exact hB.2.1
          · rw [hJ (o + 18) (by omega)]; exact hB.2.2
        · rw [hJo 28 (by omega)]; exact hsz
      · omega
    | succ n ih =>
      intro x J c6 c7 hn h1 h2 hJ hJo hf
      refine x_iload (pc := 208) hC dX12_shapeOf_208 rfl ?_
      refine x_if_lt (pc := 210) hC 270 dX12_shapeOf_210 (by decide) (by omega) (fun b210 => ?_) (fun b210 => ?_)
      · refine x_vret (pc := 270) hC rfl dX12_shapeOf_270 ?_
        have hfin : (J o 29) = lxF (shpSeq (seg (rwI I o a) g0 g1) (seg (rwI I o b) g2 g3) (seg (rwI I o t) g4 g5)).1 (shpSeq (seg (rwI I o a) g0 g1) (seg (rwI I o t) g4 g5) (seg (rwI I o b) g2 g3)).1 := by
          rw [hf, hs0, hs1]
          have : (x + 1).toNat = 0 := by omega
          first | rw [this] | skip
          rfl
        refine ⟨⟨rfl, ?_, ?_, ?_, ?_, hfin⟩, rfl, rfl, rfl, rfl⟩
        · refine hK.tr ⟨fun q a b c d => hJ q a, fun k a b => hJo k b⟩
        · refine ⟨?_, ?_, ?_⟩
          · rw [hJ (o + 17) (by omega)]; exact hA.1
          · rw [hJ (o + 19) (by omega)]; exact hA.2.1
          · rw [hJ (o + 18) (by omega)]; exact hA.2.2
        · refine ⟨?_, ?_, ?_⟩
          · rw [hJ (o + 17) (by omega)]; exact hB.1
          · rw [hJ (o + 19) (by omega)]; exact hB.2.1
          · rw [hJ (o + 18) (by omega)]; exact hB.2.2
        · rw [hJo 28 (by omega)]; exact hsz
      · have hx0 : 0 ≤ x := by omega
        have ex : ((x.toNat : Nat) : Int) = x := Int.toNat_of_nonneg hx0
        have q0 := e51 x.toNat (by omega)
        have q1 := e52 x.toNat (by omega)
        rw [ex, ← hJ (o + 17) (by omega)] at q0 q1
        have r0 := R0 _ (by rw [← hs0]; exact List.mem_of_getElem? q0)
        have r1 := R1 _ (by rw [← hs1]; exact List.mem_of_getElem? q1)
        have d0 : s0.drop x.toNat = J (o + 17) x :: s0.drop (x.toNat + 1) := by
          rw [List.drop_eq_getElem?_toList_append, q0]; rfl
        have d1 : s1.drop x.toNat = J (o + 17) (51 + x) :: s1.drop (x.toNat + 1) := by
          rw [List.drop_eq_getElem?_toList_append, q1]; rfl
        have ex1 : (x + 1).toNat = x.toNat + 1 := by omega
        rw [ex1] at hf
        have hlx : lxF (s0.drop x.toNat) (s1.drop x.toNat) = if J (o + 17) x = J (o + 17) (51 + x) then lxF (s0.drop (x.toNat + 1)) (s1.drop (x.toNat + 1)) else if J (o + 17) x < J (o + 17) (51 + x) then 0 else 1 := by
          rw [d0, d1]; rfl
        have hLs : s0.length = (shpSeq (seg (rwI I o a) g0 g1) (seg (rwI I o b) g2 g3) (seg (rwI I o t) g4 g5)).1.length := by rw [hs0]
        refine x_aload_n (pc := 213) hC dX12_shapeOf_213 rfl ?_
        refine x_getO (pc := 214) hC gf_X12_58 dX12_shapeOf_214 M.1 (mo_shape M).1 ?_
        refine x_iload (pc := 217) hC dX12_shapeOf_217 rfl ?_
        refine x_iald (pc := 219) hC dX12_shapeOf_219 (mo_shape M).2.1 (by omega) (by rw [(mo_shape M).2.2]; omega) ?_
        refine x_istore (pc := 220) hC dX12_shapeOf_220 (Nat.le_of_ble_eq_true rfl) ?_
        dsimp only [List.set]
        refine x_aload_n (pc := 222) hC dX12_shapeOf_222 rfl ?_
        refine x_getO (pc := 223) hC gf_X12_58 dX12_shapeOf_223 M.1 (mo_shape M).1 ?_
        refine x_bipush (pc := 226) hC dX12_shapeOf_226 (by decide) ?_
        refine x_iload (pc := 228) hC dX12_shapeOf_228 rfl ?_
        refine x_iadd (pc := 230) hC dX12_shapeOf_230 ?_
        refine x_iald (pc := 231) hC dX12_shapeOf_231 (mo_shape M).2.1 (by omega) (by rw [(mo_shape M).2.2]; omega) ?_
        refine x_istore (pc := 232) hC dX12_shapeOf_232 (Nat.le_of_ble_eq_true rfl) ?_
        dsimp only [List.set]
        refine x_aload_n (pc := 234) hC dX12_shapeOf_234 rfl ?_
        refine x_iload (pc := 235) hC dX12_shapeOf_235 rfl ?_
        refine x_iload (pc := 237) hC dX12_shapeOf_237 rfl ?_
        refine x_icmp_ne (pc := 239) hC 249 dX12_shapeOf_239 (by decide) (by omega) (by omega) (fun b239 => ?_) (fun b239 => ?_)
        · refine x_iload (pc := 249) hC dX12_shapeOf_249 rfl ?_
          refine x_iload (pc := 251) hC dX12_shapeOf_251 rfl ?_
          refine x_icmp_ge (pc := 253) hC 260 dX12_shapeOf_253 (by decide) (by omega) (by omega) (fun b253 => ?_) (fun b253 => ?_)
          · refine x_iconst (pc := 260) hC dX12_shapeOf_260 ?_
            refine x_putI (pc := 261) hC pf_X12_233 dX12_shapeOf_261 M.1 (by decide) ?_
            refine x_iinc (pc := 264) hC dX12_shapeOf_264 rfl ?_
            dsimp only [List.set]
            refine x_goto (pc := 267) hC 208 dX12_shapeOf_267 (by decide) ?_
            have ex2 : x + -1 + 1 = x := by omega
            refine ih (x + -1) _ _ _ (by omega) (by omega) (by omega) (fun q a => by rw [axu_row a]; exact hJ q a) (fun k a => by rw [axu_j a]; exact hJo k a) ?_
            rw [axu_s, ex2, hlx]
            first
            | (rw [if_pos (by assumption)]; exact hf)
            | rw [if_neg (by assumption), if_pos (by omega)]
            | rw [if_neg (by assumption), if_neg (by omega)]
          · refine x_iconst (pc := 256) hC dX12_shapeOf_256 ?_
            refine x_goto (pc := 257) hC 261 dX12_shapeOf_257 (by decide) ?_
            refine x_putI (pc := 261) hC pf_X12_233 dX12_shapeOf_261 M.1 (by decide) ?_
            refine x_iinc (pc := 264) hC dX12_shapeOf_264 rfl ?_
            dsimp only [List.set]
            refine x_goto (pc := 267) hC 208 dX12_shapeOf_267 (by decide) ?_
            have ex2 : x + -1 + 1 = x := by omega
            refine ih (x + -1) _ _ _ (by omega) (by omega) (by omega) (fun q a => by rw [axu_row a]; exact hJ q a) (fun k a => by rw [axu_j a]; exact hJo k a) ?_
            rw [axu_s, ex2, hlx]
            first
            | (rw [if_pos (by assumption)]; exact hf)
            | rw [if_neg (by assumption), if_pos (by omega)]
            | rw [if_neg (by assumption), if_neg (by omega)]
        · refine x_aload_n (pc := 242) hC dX12_shapeOf_242 rfl ?_
          refine x_getI (pc := 243) hC gf_X12_233 dX12_shapeOf_243 M.1 ?_
          refine x_goto (pc := 246) hC 261 dX12_shapeOf_246 (by decide) ?_
          refine x_putI (pc := 261) hC pf_X12_233 dX12_shapeOf_261 M.1 (by decide) ?_
          refine x_iinc (pc := 264) hC dX12_shapeOf_264 rfl ?_
          dsimp only [List.set]
          refine x_goto (pc := 267) hC 208 dX12_shapeOf_267 (by decide) ?_
          have ex2 : x + -1 + 1 = x := by omega
          refine ih (x + -1) _ _ _ (by omega) (by omega) (by omega) (fun q a => by rw [axu_row a]; exact hJ q a) (fun k a => by rw [axu_j a]; exact hJo k a) ?_
          rw [axu_s, ex2, hlx]
          first
          | (rw [if_pos (by assumption)]; exact hf)
          | rw [if_neg (by assumption), if_pos (by omega)]
          | rw [if_neg (by assumption), if_neg (by omega)]
  have pass0 : ∀ (J : Nat → Int → Int) (c6 c7 : ax_V), agF I J o → (∀ (K : Nat → Int → Int) (c7 : ax_V), agF I K o → (∀ j, j < 51 * 0 ∨ 51 * 0 + 51 ≤ j → K (o + 17) j = J (o + 17) j) → (∀ j, j < 48 * 0 ∨ 48 * 0 + 48 ≤ j → K (o + 18) j = J (o + 18) j) → (∀ k, k ≠ 0 → K (o + 19) k = J (o + 19) k) → shM K o 0 (shpSeq (seg (rwI I o a) g0 g1) (seg (rwI I o b) g2 g3) (seg (rwI I o t) g4 g5)) → (K o 28) = (shpSeq (seg (rwI I o a) g0 g1) (seg (rwI I o b) g2 g3) (seg (rwI I o t) g4 g5)).1.length → axX G f 0 0 (fun r1 T1 N1 I1 R1 z1 => (r1 = none ∧ agF I I1 o ∧ shM I1 o 0 (shpSeq (seg (rwI I o a) g0 g1) (seg (rwI I o b) g2 g3) (seg (rwI I o t) g4 g5)) ∧ shM I1 o 1 (shpSeq (seg (rwI I o a) g0 g1) (seg (rwI I o t) g4 g5) (seg (rwI I o b) g2 g3)) ∧ (I1 o 28) = (shpSeq (seg (rwI I o a) g0 g1) (seg (rwI I o b) g2 g3) (seg (rwI I o t) g4 g5)).1.length ∧ (I1 o 29) = lxF (shpSeq (seg (rwI I o a) g0 g1) (seg (rwI I o b) g2 g3) (seg (rwI I o t) g4 g5)).1 (shpSeq (seg (rwI I o a) g0 g1) (seg (rwI I o t) g4 g5) (seg (rwI I o b) g2 g3)).1) ∧ T1 = T ∧ N1 = N ∧ R1 = R ∧ z1 = z) 189 [vR o, vI a, vI b, vI t, vI at_, vI 0, vI (shpSeq (seg (rwI I o a) g0 g1) (seg (rwI I o b) g2 g3) (seg (rwI I o t) g4 g5)).1.length, c7] [] T N K R z 0 0) → axX G f 0 0 (fun r1 T1 N1 I1 R1 z1 => (r1 = none ∧ agF I I1 o ∧ shM I1 o 0 (shpSeq (seg (rwI I o a) g0 g1) (seg (rwI I o b) g2 g3) (seg (rwI I o t) g4 g5)) ∧ shM I1 o 1 (shpSeq (seg (rwI I o a) g0 g1) (seg (rwI I o t) g4 g5) (seg (rwI I o b) g2 g3)) ∧ (I1 o 28) = (shpSeq (seg (rwI I o a) g0 g1) (seg (rwI I o b) g2 g3) (seg (rwI I o t) g4 g5)).1.length ∧ (I1 o 29) = lxF (shpSeq (seg (rwI I o a) g0 g1) (seg (rwI I o b) g2 g3) (seg (rwI I o t) g4 g5)).1 (shpSeq (seg (rwI I o a) g0 g1) (seg (rwI I o t) g4 g5) (seg (rwI I o b) g2 g3)).1) ∧ T1 = T ∧ N1 = N ∧ R1 = R ∧ z1 = z) 9 [vR o, vI a, vI b, vI t, vI at_, vI 0, c6, c7] [] T N J R z 0 0 := by
    intro J c6 c7 hJ cont
    have lb := shPart_l ([], []) (seg (rwI I o a) g0 g1)
    have lx := shPart_l (shPart ([], []) (seg (rwI I o a) g0 g1)) (seg (rwI I o b) g2 g3)
    have ly := shPart_l (shPart (shPart ([], []) (seg (rwI I o a) g0 g1)) (seg (rwI I o b) g2 g3)) (seg (rwI I o t) g4 g5)
    simp only [List.length_nil, seg_len] at lb lx ly
    refine x_aload_n (pc := 9) hC dX12_shapeOf_9 rfl ?_
    refine x_getO (pc := 10) hC gf_X12_64 dX12_shapeOf_10 M.1 (mo_names M).1 ?_
    refine x_iload (pc := 13) hC dX12_shapeOf_13 rfl ?_
    refine x_iconst (pc := 15) hC dX12_shapeOf_15 ?_
    refine x_iast (pc := 16) hC dX12_shapeOf_16 (mo_names M).2.1 (by omega) (by rw [(mo_names M).2.2]; omega) ?_
    have hJ0 : agF I (ax_u J (o + 19) 0 0) o := hJ.tr ⟨fun q a b c d => axu_row d, fun k _ _ => axu_a (by omega)⟩
    have hM0 : shM (ax_u J (o + 19) 0 0) o 0 ([], []) := ⟨seg_nil (by simp), by rw [axu_s]; rfl, seg_nil (by simp)⟩
    obtain ⟨g00, g01, g02, g03, g04, g05⟩ := gpk _ hJ0
    refine x_aload_n (pc := 17) hC dX12_shapeOf_17 rfl ?_
    refine x_iload (pc := 18) hC dX12_shapeOf_18 rfl ?_
    refine x_iconst (pc := 20) hC dX12_shapeOf_20 ?_
    refine x_iload_n (pc := 21) hC dX12_shapeOf_21 rfl ?_
    refine x_aload_n (pc := 22) hC dX12_shapeOf_22 rfl ?_
    refine x_getO (pc := 23) hC gf_X12_55 dX12_shapeOf_23 M.1 (mo_gapOf M).1 ?_
    refine x_iload (pc := 26) hC dX12_shapeOf_26 rfl ?_
    refine x_iald (pc := 28) hC dX12_shapeOf_28 (mo_gapOf M).2.1 (by omega) (by rw [(mo_gapOf M).2.2]; omega) ?_
    refine x_aload_n (pc := 29) hC dX12_shapeOf_29 rfl ?_
    refine x_getO (pc := 30) hC gf_X12_55 dX12_shapeOf_30 M.1 (mo_gapOf M).1 ?_
    refine x_iload (pc := 33) hC dX12_shapeOf_33 rfl ?_
    refine x_iconst (pc := 35) hC dX12_shapeOf_35 ?_
    refine x_iadd (pc := 36) hC dX12_shapeOf_36 ?_
    refine x_iald (pc := 37) hC dX12_shapeOf_37 (mo_gapOf M).2.1 (by omega) (by rw [(mo_gapOf M).2.2]; omega) ?_
    rw [g00, g01]
    refine x_mVx (pc := 38) hC cv_X12_226 dX12_shapeOf_38 (m_shapes (l := 0) (c := a) (i := g0) (e := g1) (s := ([], [])) M hM0 (lnk _ hJ0) isLn.nil (Or.inl rfl) (by omega) (by omega) (by first | omega | (simp only [List.length_nil]; omega)) (by first | omega | (simp only [List.length_nil]; omega))) M.1 rfl (by decide) rfl rfl (Nat.le_of_ble_eq_true rfl) ?_
    rintro v J1 ⟨rfl, hA1, hM1⟩
    dsimp only [Option.toList, List.cons_append, List.nil_append]
    have hJ1 := hJ0.tr hA1.agF
    rw [rwk _ hJ0] at hM1
    rw [rwk _ hJ0]
    obtain ⟨g00, g01, g02, g03, g04, g05⟩ := gpk _ hJ1
    refine x_istore (pc := 41) hC dX12_shapeOf_41 (Nat.le_of_ble_eq_true rfl) ?_
    dsimp only [List.set]
    refine x_iload (pc := 43) hC dX12_shapeOf_43 rfl ?_
    refine x_if_ne (pc := 45) hC 52 dX12_shapeOf_45 (by decide) (by decide) (fun b => absurd rfl b) (fun _ => ?_)
    refine x_iconst (pc := 48) hC dX12_shapeOf_48 ?_
    refine x_goto (pc := 49) hC 53 dX12_shapeOf_49 (by decide) ?_
    refine x_istore (pc := 53) hC dX12_shapeOf_53 (Nat.le_of_ble_eq_true rfl) ?_
    dsimp only [List.set]
    refine x_iload (pc := 55) hC dX12_shapeOf_55 rfl ?_
    refine x_if_eq (pc := 57) hC 90 dX12_shapeOf_57 (by decide) (by decide) (fun b => absurd b (by decide)) (fun _ => ?_)
    refine x_aload_n (pc := 60) hC dX12_shapeOf_60 rfl ?_
    refine x_iload (pc := 61) hC dX12_shapeOf_61 rfl ?_
    refine x_iload (pc := 63) hC dX12_shapeOf_63 rfl ?_
    refine x_iload_n (pc := 65) hC dX12_shapeOf_65 rfl ?_
    refine x_aload_n (pc := 66) hC dX12_shapeOf_66 rfl ?_
    refine x_getO (pc := 67) hC gf_X12_55 dX12_shapeOf_67 M.1 (mo_gapOf M).1 ?_
    refine x_iload (pc := 70) hC dX12_shapeOf_70 rfl ?_
    refine x_iconst (pc := 72) hC dX12_shapeOf_72 ?_
    refine x_iadd (pc := 73) hC dX12_shapeOf_73 ?_
    refine x_iald (pc := 74) hC dX12_shapeOf_74 (mo_gapOf M).2.1 (by omega) (by rw [(mo_gapOf M).2.2]; omega) ?_
    refine x_aload_n (pc := 75) hC dX12_shapeOf_75 rfl ?_
    refine x_getO (pc := 76) hC gf_X12_55 dX12_shapeOf_76 M.1 (mo_gapOf M).1 ?_
    refine x_iload (pc := 79) hC dX12_shapeOf_79 rfl ?_
    refine x_iconst (pc := 81) hC dX12_shapeOf_81 ?_
    refine x_iadd (pc := 82) hC dX12_shapeOf_82 ?_
    refine x_iald (pc := 83) hC dX12_shapeOf_83 (mo_gapOf M).2.1 (by omega) (by rw [(mo_gapOf M).2.2]; omega) ?_
    rw [g02, g03]
    refine x_mVx (pc := 84) hC cv_X12_226 dX12_shapeOf_84 (m_shapes (l := 0) (c := b) (i := g2) (e := g3) (s := (shPart ([], []) (seg (rwI I o a) g0 g1))) M hM1 (lnk _ hJ1) (shPart_ln (seg_isLn (fun j => hl.1 _) _ _) isLn.nil) (Or.inl rfl) (by omega) (by omega) (by first | omega | (simp only [List.length_nil]; omega)) (by first | omega | (simp only [List.length_nil]; omega))) M.1 rfl (by decide) rfl rfl (Nat.le_of_ble_eq_true rfl) ?_
    rintro v J2 ⟨rfl, hA2, hM2⟩
    dsimp only [Option.toList, List.cons_append, List.nil_append]
    have hJ2 := hJ1.tr hA2.agF
    rw [rwk _ hJ1] at hM2
    rw [rwk _ hJ1]
    obtain ⟨g00, g01, g02, g03, g04, g05⟩ := gpk _ hJ2
    refine x_goto (pc := 87) hC 117 dX12_shapeOf_87 (by decide) ?_
    refine x_istore (pc := 117) hC dX12_shapeOf_117 (Nat.le_of_ble_eq_true rfl) ?_
    dsimp only [List.set]
    refine x_iload (pc := 119) hC dX12_shapeOf_119 rfl ?_
    refine x_if_eq (pc := 121) hC 154 dX12_shapeOf_121 (by decide) (by decide) (fun b => absurd b (by decide)) (fun _ => ?_)
    refine x_aload_n (pc := 124) hC dX12_shapeOf_124 rfl ?_
    refine x_iload (pc := 125) hC dX12_shapeOf_125 rfl ?_
    refine x_iload (pc := 127) hC dX12_shapeOf_127 rfl ?_
    refine x_iload_n (pc := 129) hC dX12_shapeOf_129 rfl ?_
    refine x_aload_n (pc := 130) hC dX12_shapeOf_130 rfl ?_
    refine x_getO (pc := 131) hC gf_X12_55 dX12_shapeOf_131 M.1 (mo_gapOf M).1 ?_
    refine x_iload (pc := 134) hC dX12_shapeOf_134 rfl ?_
    refine x_iconst (pc := 136) hC dX12_shapeOf_136 ?_
    refine x_iadd (pc := 137) hC dX12_shapeOf_137 ?_
    refine x_iald (pc := 138) hC dX12_shapeOf_138 (mo_gapOf M).2.1 (by omega) (by rw [(mo_gapOf M).2.2]; omega) ?_
    refine x_aload_n (pc := 139) hC dX12_shapeOf_139 rfl ?_
    refine x_getO (pc := 140) hC gf_X12_55 dX12_shapeOf_140 M.1 (mo_gapOf M).1 ?_
    refine x_iload (pc := 143) hC dX12_shapeOf_143 rfl ?_
    refine x_iconst (pc := 145) hC dX12_shapeOf_145 ?_
    refine x_iadd (pc := 146) hC dX12_shapeOf_146 ?_
    refine x_iald (pc := 147) hC dX12_shapeOf_147 (mo_gapOf M).2.1 (by omega) (by rw [(mo_gapOf M).2.2]; omega) ?_
    rw [g04, g05]
    refine x_mVx (pc := 148) hC cv_X12_226 dX12_shapeOf_148 (m_shapes (l := 0) (c := t) (i := g4) (e := g5) (s := (shPart (shPart ([], []) (seg (rwI I o a) g0 g1)) (seg (rwI I o b) g2 g3))) M hM2 (lnk _ hJ2) (shPart_ln (seg_isLn (fun j => hl.1 _) _ _) (shPart_ln (seg_isLn (fun j => hl.1 _) _ _) isLn.nil)) (Or.inl rfl) (by omega) (by omega) (by first | omega | (simp only [List.length_nil]; omega)) (by first | omega | (simp only [List.length_nil]; omega))) M.1 rfl (by decide) rfl rfl (Nat.le_of_ble_eq_true rfl) ?_
    rintro v J3 ⟨rfl, hA3, hM3⟩
    dsimp only [Option.toList, List.cons_append, List.nil_append]
    have hJ3 := hJ2.tr hA3.agF
    rw [rwk _ hJ2] at hM3
    rw [rwk _ hJ2]
    refine x_goto (pc := 151) hC 181 dX12_shapeOf_151 (by decide) ?_
    refine x_istore (pc := 181) hC dX12_shapeOf_181 (Nat.le_of_ble_eq_true rfl) ?_
    dsimp only [List.set]
    refine x_aload_n (pc := 183) hC dX12_shapeOf_183 rfl ?_
    refine x_iload (pc := 184) hC dX12_shapeOf_184 rfl ?_
    refine x_putI (pc := 186) hC pf_X12_230 dX12_shapeOf_186 M.1 (by decide) ?_
    refine cont (ax_u J3 o 28 _) _ (hJ3.tr ⟨fun q a b c d => axu_row a, fun k a b => axu_j a⟩) (fun j a => ?_) (fun j a => ?_) (fun k a => ?_) ?_ axu_s
    · rw [axu_a (by omega), hA3.2.1 j a, hA2.2.1 j a, hA1.2.1 j a, axu_a (by omega)]
    · rw [axu_a (by omega), hA3.2.2.1 j a, hA2.2.2.1 j a, hA1.2.2.1 j a, axu_a (by omega)]
    · rw [axu_a (by omega), hA3.2.2.2 k a, hA2.2.2.2 k a, hA1.2.2.2 k a, axu_j a]
    · refine ⟨?_, ?_, ?_⟩
      · rw [axu_row (by omega)]; exact hM3.1
      · rw [axu_a (by omega)]; exact hM3.2.1
      · rw [axu_row (by omega)]; exact hM3.2.2
  have pass1 : ∀ (J : Nat → Int → Int) (c6 c7 : ax_V), agF I J o → (∀ (K : Nat → Int → Int) (c7 : ax_V), agF I K o → (∀ j, j < 51 * 1 ∨ 51 * 1 + 51 ≤ j → K (o + 17) j = J (o + 17) j) → (∀ j, j < 48 * 1 ∨ 48 * 1 + 48 ≤ j → K (o + 18) j = J (o + 18) j) → (∀ k, k ≠ 1 → K (o + 19) k = J (o + 19) k) → shM K o 1 (shpSeq (seg (rwI I o a) g0 g1) (seg (rwI I o t) g4 g5) (seg (rwI I o b) g2 g3)) → (K o 28) = (shpSeq (seg (rwI I o a) g0 g1) (seg (rwI I o t) g4 g5) (seg (rwI I o b) g2 g3)).1.length → axX G f 0 0 (fun r1 T1 N1 I1 R1 z1 => (r1 = none ∧ agF I I1 o ∧ shM I1 o 0 (shpSeq (seg (rwI I o a) g0 g1) (seg (rwI I o b) g2 g3) (seg (rwI I o t) g4 g5)) ∧ shM I1 o 1 (shpSeq (seg (rwI I o a) g0 g1) (seg (rwI I o t) g4 g5) (seg (rwI I o b) g2 g3)) ∧ (I1 o 28) = (shpSeq (seg (rwI I o a) g0 g1) (seg (rwI I o b) g2 g3) (seg (rwI I o t) g4 g5)).1.length ∧ (I1 o 29) = lxF (shpSeq (seg (rwI I o a) g0 g1) (seg (rwI I o b) g2 g3) (seg (rwI I o t) g4 g5)).1 (shpSeq (seg (rwI I o a) g0 g1) (seg (rwI I o t) g4 g5) (seg (rwI I o b) g2 g3)).1) ∧ T1 = T ∧ N1 = N ∧ R1 = R ∧ z1 = z) 189 [vR o, vI a, vI b, vI t, vI at_, vI 1, vI (shpSeq (seg (rwI I o a) g0 g1) (seg (rwI I o t) g4 g5) (seg (rwI I o b) g2 g3)).1.length, c7] [] T N K R z 0 0) → axX G f 0 0 (fun r1 T1 N1 I1 R1 z1 => (r1 = none ∧ agF I I1 o ∧ shM I1 o 0 (shpSeq (seg (rwI I o a) g0 g1) (seg (rwI I o b) g2 g3) (seg (rwI I o t) g4 g5)) ∧ shM I1 o 1 (shpSeq (seg (rwI I o a) g0 g1) (seg (rwI I o t) g4 g5) (seg (rwI I o b) g2 g3)) ∧ (I1 o 28) = (shpSeq (seg (rwI I o a) g0 g1) (seg (rwI I o b) g2 g3) (seg (rwI I o t) g4 g5)).1.length ∧ (I1 o 29) = lxF (shpSeq (seg (rwI I o a) g0 g1) (seg (rwI I o b) g2 g3) (seg (rwI I o t) g4 g5)).1 (shpSeq (seg (rwI I o a) g0 g1) (seg (rwI I o t) g4 g5) (seg (rwI I o b) g2 g3)).1) ∧ T1 = T ∧ N1 = N ∧ R1 = R ∧ z1 = z) 9 [vR o, vI a, vI b, vI t, vI at_, vI 1, c6, c7] [] T N J R z 0 0 := by
    intro J c6 c7 hJ cont
    have lb := shPart_l ([], []) (seg (rwI I o a) g0 g1)
    have lx := shPart_l (shPart ([], []) (seg (rwI I o a) g0 g1)) (seg (rwI I o t) g4 g5)
    have ly := shPart_l (shPart (shPart ([], []) (seg (rwI I o a) g0 g1)) (seg (rwI I o t) g4 g5)) (seg (rwI I o b) g2 g3)
    simp only [List.length_nil, seg_len] at lb lx ly
    refine x_aload_n (pc := 9) hC dX12_shapeOf_9 rfl ?_
    refine x_getO (pc := 10) hC gf_X12_64 dX12_shapeOf_10 M.1 (mo_names M).1 ?_
    refine x_iload (pc := 13) hC dX12_shapeOf_13 rfl ?_
    refine x_iconst (pc := 15) hC dX12_shapeOf_15 ?_
    refine x_iast (pc := 16) hC dX12_shapeOf_16 (mo_names M).2.1 (by omega) (by rw [(mo_names M).2.2]; omega) ?_
    have hJ0 : agF I (ax_u J (o + 19) 1 0) o := hJ.tr ⟨fun q a b c d => axu_row d, fun k _ _ => axu_a (by omega)⟩
    have hM0 : shM (ax_u J (o + 19) 1 0) o 1 ([], []) := ⟨seg_nil (by simp), by rw [axu_s]; rfl, seg_nil (by simp)⟩
    obtain ⟨g00, g01, g02, g03, g04, g05⟩ := gpk _ hJ0
    refine x_aload_n (pc := 17) hC dX12_shapeOf_17 rfl ?_
    refine x_iload (pc := 18) hC dX12_shapeOf_18 rfl ?_
    refine x_iconst (pc := 20) hC dX12_shapeOf_20 ?_
    refine x_iload_n (pc := 21) hC dX12_shapeOf_21 rfl ?_
    refine x_aload_n (pc := 22) hC dX12_shapeOf_22 rfl ?_
    refine x_getO (pc := 23) hC gf_X12_55 dX12_shapeOf_23 M.1 (mo_gapOf M).1 ?_
    refine x_iload (pc := 26) hC dX12_shapeOf_26 rfl ?_
    refine x_iald (pc := 28) hC dX12_shapeOf_28 (mo_gapOf M).2.1 (by omega) (by rw [(mo_gapOf M).2.2]; omega) ?_
    refine x_aload_n (pc := 29) hC dX12_shapeOf_29 rfl ?_
    refine x_getO (pc := 30) hC gf_X12_55 dX12_shapeOf_30 M.1 (mo_gapOf M).1 ?_
    refine x_iload (pc := 33) hC dX12_shapeOf_33 rfl ?_
    refine x_iconst (pc := 35) hC dX12_shapeOf_35 ?_
    refine x_iadd (pc := 36) hC dX12_shapeOf_36 ?_
    refine x_iald (pc := 37) hC dX12_shapeOf_37 (mo_gapOf M).2.1 (by omega) (by rw [(mo_gapOf M).2.2]; omega) ?_
    rw [g00, g01]
    refine x_mVx (pc := 38) hC cv_X12_226 dX12_shapeOf_38 (m_shapes (l := 1) (c := a) (i := g0) (e := g1) (s := ([], [])) M hM0 (lnk _ hJ0) isLn.nil (Or.inr rfl) (by omega) (by omega) (by first | omega | (simp only [List.length_nil]; omega)) (by first | omega | (simp only [List.length_nil]; omega))) M.1 rfl (by decide) rfl rfl (Nat.le_of_ble_eq_true rfl) ?_
    rintro v J1 ⟨rfl, hA1, hM1⟩
    dsimp only [Option.toList, List.cons_append, List.nil_append]
    have hJ1 := hJ0.tr hA1.agF
    rw [rwk _ hJ0] at hM1
    rw [rwk _ hJ0]
    obtain ⟨g00, g01, g02, g03, g04, g05⟩ := gpk _ hJ1
    refine x_istore (pc := 41) hC dX12_shapeOf_41 (Nat.le_of_ble_eq_true rfl) ?_
    dsimp only [List.set]
    refine x_iload (pc := 43) hC dX12_shapeOf_43 rfl ?_
    refine x_if_ne (pc := 45) hC 52 dX12_shapeOf_45 (by decide) (by decide) (fun _ => ?_) (fun b => absurd b (by decide))
    refine x_iconst (pc := 52) hC dX12_shapeOf_52 ?_
    refine x_istore (pc := 53) hC dX12_shapeOf_53 (Nat.le_of_ble_eq_true rfl) ?_
    dsimp only [List.set]
    refine x_iload (pc := 55) hC dX12_shapeOf_55 rfl ?_
    refine x_if_eq (pc := 57) hC 90 dX12_shapeOf_57 (by decide) (by decide) (fun _ => ?_) (fun b => absurd rfl b)
    refine x_aload_n (pc := 90) hC dX12_shapeOf_90 rfl ?_
    refine x_iload (pc := 91) hC dX12_shapeOf_91 rfl ?_
    refine x_iload (pc := 93) hC dX12_shapeOf_93 rfl ?_
    refine x_iload_n (pc := 95) hC dX12_shapeOf_95 rfl ?_
    refine x_aload_n (pc := 96) hC dX12_shapeOf_96 rfl ?_
    refine x_getO (pc := 97) hC gf_X12_55 dX12_shapeOf_97 M.1 (mo_gapOf M).1 ?_
    refine x_iload (pc := 100) hC dX12_shapeOf_100 rfl ?_
    refine x_iconst (pc := 102) hC dX12_shapeOf_102 ?_
    refine x_iadd (pc := 103) hC dX12_shapeOf_103 ?_
    refine x_iald (pc := 104) hC dX12_shapeOf_104 (mo_gapOf M).2.1 (by omega) (by rw [(mo_gapOf M).2.2]; omega) ?_
    refine x_aload_n (pc := 105) hC dX12_shapeOf_105 rfl ?_
    refine x_getO (pc := 106) hC gf_X12_55 dX12_shapeOf_106 M.1 (mo_gapOf M).1 ?_
    refine x_iload (pc := 109) hC dX12_shapeOf_109 rfl ?_
    refine x_iconst (pc := 111) hC dX12_shapeOf_111 ?_
    refine x_iadd (pc := 112) hC dX12_shapeOf_112 ?_
    refine x_iald (pc := 113) hC dX12_shapeOf_113 (mo_gapOf M).2.1 (by omega) (by rw [(mo_gapOf M).2.2]; omega) ?_
    rw [g04, g05]
    refine x_mVx (pc := 114) hC cv_X12_226 dX12_shapeOf_114 (m_shapes (l := 1) (c := t) (i := g4) (e := g5) (s := (shPart ([], []) (seg (rwI I o a) g0 g1))) M hM1 (lnk _ hJ1) (shPart_ln (seg_isLn (fun j => hl.1 _) _ _) isLn.nil) (Or.inr rfl) (by omega) (by omega) (by first | omega | (simp only [List.length_nil]; omega)) (by first | omega | (simp only [List.length_nil]; omega))) M.1 rfl (by decide) rfl rfl (Nat.le_of_ble_eq_true rfl) ?_
    rintro v J2 ⟨rfl, hA2, hM2⟩
    dsimp only [Option.toList, List.cons_append, List.nil_append]
    have hJ2 := hJ1.tr hA2.agF
    rw [rwk _ hJ1] at hM2
    rw [rwk _ hJ1]
    obtain ⟨g00, g01, g02, g03, g04, g05⟩ := gpk _ hJ2
    refine x_istore (pc := 117) hC dX12_shapeOf_117 (Nat.le_of_ble_eq_true rfl) ?_
    dsimp only [List.set]
    refine x_iload (pc := 119) hC dX12_shapeOf_119 rfl ?_
    refine x_if_eq (pc := 121) hC 154 dX12_shapeOf_121 (by decide) (by decide) (fun _ => ?_) (fun b => absurd rfl b)
    refine x_aload_n (pc := 154) hC dX12_shapeOf_154 rfl ?_
    refine x_iload (pc := 155) hC dX12_shapeOf_155 rfl ?_
    refine x_iload (pc := 157) hC dX12_shapeOf_157 rfl ?_
    refine x_iload_n (pc := 159) hC dX12_shapeOf_159 rfl ?_
    refine x_aload_n (pc := 160) hC dX12_shapeOf_160 rfl ?_
    refine x_getO (pc := 161) hC gf_X12_55 dX12_shapeOf_161 M.1 (mo_gapOf M).1 ?_
    refine x_iload (pc := 164) hC dX12_shapeOf_164 rfl ?_
    refine x_iconst (pc := 166) hC dX12_shapeOf_166 ?_
    refine x_iadd (pc := 167) hC dX12_shapeOf_167 ?_
    refine x_iald (pc := 168) hC dX12_shapeOf_168 (mo_gapOf M).2.1 (by omega) (by rw [(mo_gapOf M).2.2]; omega) ?_
    refine x_aload_n (pc := 169) hC dX12_shapeOf_169 rfl ?_
    refine x_getO (pc := 170) hC gf_X12_55 dX12_shapeOf_170 M.1 (mo_gapOf M).1 ?_
    refine x_iload (pc := 173) hC dX12_shapeOf_173 rfl ?_
    refine x_iconst (pc := 175) hC dX12_shapeOf_175 ?_
    refine x_iadd (pc := 176) hC dX12_shapeOf_176 ?_
    refine x_iald (pc := 177) hC dX12_shapeOf_177 (mo_gapOf M).2.1 (by omega) (by rw [(mo_gapOf M).2.2]; omega) ?_
    rw [g02, g03]
    refine x_mVx (pc := 178) hC cv_X12_226 dX12_shapeOf_178 (m_shapes (l := 1) (c := b) (i := g2) (e := g3) (s := (shPart (shPart ([], []) (seg (rwI I o a) g0 g1)) (seg (rwI I o t) g4 g5))) M hM2 (lnk _ hJ2) (shPart_ln (seg_isLn (fun j => hl.1 _) _ _) (shPart_ln (seg_isLn (fun j => hl.1 _) _ _) isLn.nil)) (Or.inr rfl) (by omega) (by omega) (by first | omega | (simp only [List.length_nil]; omega)) (by first | omega | (simp only [List.length_nil]; omega))) M.1 rfl (by decide) rfl rfl (Nat.le_of_ble_eq_true rfl) ?_
    rintro v J3 ⟨rfl, hA3, hM3⟩
    dsimp only [Option.toList, List.cons_append, List.nil_append]
    have hJ3 := hJ2.tr hA3.agF
    rw [rwk _ hJ2] at hM3
    rw [rwk _ hJ2]
    refine x_istore (pc := 181) hC dX12_shapeOf_181 (Nat.le_of_ble_eq_true rfl) ?_
    dsimp only [List.set]
    refine x_aload_n (pc := 183) hC dX12_shapeOf_183 rfl ?_
    refine x_iload (pc := 184) hC dX12_shapeOf_184 rfl ?_
    refine x_putI (pc := 186) hC pf_X12_230 dX12_shapeOf_186 M.1 (by decide) ?_
    refine cont (ax_u J3 o 28 _) _ (hJ3.tr ⟨fun q a b c d => axu_row a, fun k a b => axu_j a⟩) (fun j a => ?_) (fun j a => ?_) (fun k a => ?_) ?_ axu_s
    · rw [axu_a (by omega), hA3.2.1 j a, hA2.2.1 j a, hA1.2.1 j a, axu_a (by omega)]
    · rw [axu_a (by omega), hA3.2.2.1 j a, hA2.2.2.1 j a, hA1.2.2.1 j a, axu_a (by omega)]
    · rw [axu_a (by omega), hA3.2.2.2 k a, hA2.2.2.2 k a, hA1.2.2.2 k a, axu_j a]
    · refine ⟨?_, ?_, ?_⟩
      · rw [axu_row (by omega)]; exact hM3.1
      · rw [axu_a (by omega)]; exact hM3.2.1
      · rw [axu_row (by omega)]; exact hM3.2.2
  refine x_iconst (pc := 0) hC dX12_shapeOf_0 ?_
  refine x_istore (pc := 1) hC dX12_shapeOf_1 (Nat.le_of_ble_eq_true rfl) ?_
  dsimp only [List.set]
  refine x_iload (pc := 3) hC dX12_shapeOf_3 rfl ?_
  refine x_iconst (pc := 5) hC dX12_shapeOf_5 ?_
  refine x_icmp_ge (pc := 6) hC 195 dX12_shapeOf_6 (by decide) (by decide) (by decide) (fun b => absurd b (by decide)) (fun _ => ?_)
  refine pass0 I _ _ agF.rf (fun K c7 hK f1 f2 f3 hM hS => ?_)
  refine x_iinc (pc := 189) hC dX12_shapeOf_189 rfl ?_
  dsimp only [List.set]
  refine x_goto (pc := 192) hC 3 dX12_shapeOf_192 (by decide) ?_
  refine x_iload (pc := 3) hC dX12_shapeOf_3 rfl ?_
  refine x_iconst (pc := 5) hC dX12_shapeOf_5 ?_
  refine x_icmp_ge (pc := 6) hC 195 dX12_shapeOf_6 (by decide) (by decide) (by decide) (fun b => absurd b (by decide)) (fun _ => ?_)
  refine pass1 K _ _ hK (fun K2 c7 hK2 f1 f2 f3 hM2 hS2 => ?_)
  refine x_iinc (pc := 189) hC dX12_shapeOf_189 rfl ?_
  dsimp only [List.set]
  refine x_goto (pc := 192) hC 3 dX12_shapeOf_192 (by decide) ?_
  refine x_iload (pc := 3) hC dX12_shapeOf_3 rfl ?_
  refine x_iconst (pc := 5) hC dX12_shapeOf_5 ?_
  refine x_icmp_ge (pc := 6) hC 195 dX12_shapeOf_6 (by decide) (by decide) (by decide) (fun _ => ?_) (fun b => absurd (by decide) b)
  have hMz : shM K2 o 0 (shpSeq (seg (rwI I o a) g0 g1) (seg (rwI I o b) g2 g3) (seg (rwI I o t) g4 g5)) := by
    obtain ⟨x1, x2, x3⟩ := hM
    refine ⟨?_, ?_, ?_⟩
    · exact Eq.trans (seg_congr (fun k p q => f1 k (by omega))) x1
    · rw [f3 0 (by omega)]; exact x2
    · exact Eq.trans (seg_congr (fun k p q => f2 k (by omega))) x3
  have hlen2 : (shpSeq (seg (rwI I o a) g0 g1) (seg (rwI I o t) g4 g5) (seg (rwI I o b) g2 g3)).1.length = (shpSeq (seg (rwI I o a) g0 g1) (seg (rwI I o b) g2 g3) (seg (rwI I o t) g4 g5)).1.length := by omega
  rw [hlen2] at hS2
  refine x_aload_n (pc := 195) hC dX12_shapeOf_195 rfl ?_
  refine x_iconst (pc := 196) hC dX12_shapeOf_196 ?_
  refine x_putI (pc := 197) hC pf_X12_233 dX12_shapeOf_197 M.1 (by decide) ?_
  refine x_aload_n (pc := 200) hC dX12_shapeOf_200 rfl ?_
  refine x_getI (pc := 201) hC gf_X12_230 dX12_shapeOf_201 M.1 ?_
  refine x_iconst (pc := 204) hC dX12_shapeOf_204 ?_
  rw [show ax_u K2 o 29 0 o 28 = K2 o 28 from axu_j (by omega), hS2]
  refine x_isub (pc := 205) hC dX12_shapeOf_205 ?_
  refine x_istore (pc := 206) hC dX12_shapeOf_206 (Nat.le_of_ble_eq_true rfl) ?_
  dsimp only [List.set]
  refine cmp K2 hK2 hMz hM2 hS2 s0.length _ _ _ _ (by omega) (by omega) (by omega) (fun q a => axu_row a) (fun k a => axu_j a) ?_
  rw [axu_s]
  have d0 : s0.drop ((((shpSeq (seg (rwI I o a) g0 g1) (seg (rwI I o b) g2 g3) (seg (rwI I o t) g4 g5)).1.length : Nat) : Int) - 1 + 1).toNat = [] := List.drop_eq_nil_of_le (by omega)
  rw [d0]
  rfl

