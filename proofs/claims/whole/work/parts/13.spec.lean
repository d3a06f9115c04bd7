/-! WHAT THE METHODS SAY: rows, matchings -/
theorem int_ind {P : Int → Prop} (m : Int) (h : ∀ i, (∀ j, j < i → m ≤ j → P j) → m ≤ i → P i) : ∀ i, m ≤ i → P i := by
  have key : ∀ (n : Nat) (i : Int), (i - m).toNat ≤ n → m ≤ i → P i := by
    intro n
    induction n with
    | zero => intro i hn hi; exact h i (fun j h1 h2 => by omega) hi
    | succ n ih => intro i hn hi; exact h i (fun j h1 h2 => ih j (by omega) h2) hi
  exact fun i hi => key _ i (Nat.le_refl _) hi
/-- the numbers from place i to ahead of place j -/
def seg (f : Int → Int) (i j : Int) : List Int := (List.range (j - i).toNat).map (fun k : Nat => f (i + (k : Int)))
theorem seg_len (f : Int → Int) (i j : Int) : (seg f i j).length = (j - i).toNat := by simp [seg]
theorem seg_nil {f : Int → Int} {i j : Int} (h : j ≤ i) : seg f i j = [] := by
  have : (j - i).toNat = 0 := by omega
  simp [seg, this]
theorem seg_cons {f : Int → Int} {i j : Int} (h : i < j) : seg f i j = f i :: seg f (i + 1) j := by
  have e : (j - i).toNat = (j - (i + 1)).toNat + 1 := by omega
  simp only [seg, e, List.range_succ_eq_map, List.map_cons, List.map_map]
  congr 1
  · simp
  · apply List.map_congr_left
    intro k _
    simp only [Function.comp]
    congr 1
    omega
theorem seg_snoc {f : Int → Int} {i j : Int} (h : i ≤ j) : seg f i (j + 1) = seg f i j ++ [f j] := by
  have e : (j + 1 - i).toNat = (j - i).toNat + 1 := by omega
  simp only [seg, e, List.range_succ, List.map_append, List.map_cons, List.map_nil]
  congr 2
  congr 1
  omega
theorem seg_congr {f g : Int → Int} {i j : Int} (h : ∀ k, i ≤ k → k < j → f k = g k) : seg f i j = seg g i j := by
  unfold seg
  apply List.map_congr_left
  intro k hk
  rw [List.mem_range] at hk
  exact h _ (by omega) (by omega)
theorem seg_shift {f g : Int → Int} {i j i' j' : Int} (hl : j - i = j' - i') (h : ∀ k, 0 ≤ k → k < j - i → f (i + k) = g (i' + k)) : seg f i j = seg g i' j' := by
  unfold seg
  rw [hl]
  apply List.map_congr_left
  intro k hk
  rw [List.mem_range] at hk
  exact h k (by omega) (by omega)
theorem seg_get {f : Int → Int} {i j : Int} {k : Nat} (h : (k : Int) < j - i) : (seg f i j)[k]? = some (f (i + k)) := by
  simp only [seg, List.getElem?_map]
  rw [List.getElem?_range (by omega)]
  rfl
theorem seg_eq {f g : Int → Int} {i j i' j' : Int} (hi : i ≤ j) (hi' : i' ≤ j') : seg f i j = seg g i' j' ↔ j - i = j' - i' ∧ ∀ k, 0 ≤ k → k < j - i → f (i + k) = g (i' + k) := by
  constructor
  · intro h
    have hl := congrArg List.length h
    rw [seg_len, seg_len] at hl
    refine ⟨by omega, fun k h0 h1 => ?_⟩
    have h2 : (seg f i j)[k.toNat]? = (seg g i' j')[k.toNat]? := by rw [h]
    rw [seg_get (by omega), seg_get (by omega)] at h2
    have h3 := Option.some.inj h2
    have e : ((k.toNat : Nat) : Int) = k := Int.toNat_of_nonneg h0
    rw [e] at h3
    exact h3
  · intro h
    exact seg_shift h.1 h.2
theorem seg_app {f : Int → Int} {i j k : Int} (h1 : i ≤ j) (h2 : j ≤ k) : seg f i k = seg f i j ++ seg f j k := by
  apply List.ext_getElem?
  intro q
  by_cases hq : (q : Int) < j - i
  · rw [List.getElem?_append_left (by rw [seg_len]; omega), seg_get (by omega), seg_get hq]
  · rw [List.getElem?_append_right (by rw [seg_len]; omega), seg_len]
    by_cases hq2 : (q : Int) < k - i
    · rw [seg_get hq2, seg_get (by omega)]
      congr 2
      omega
    · rw [List.getElem?_eq_none (by rw [seg_len]; omega), List.getElem?_eq_none (by rw [seg_len]; omega)]
theorem seg_mem {f : Int → Int} {i j v : Int} : v ∈ seg f i j ↔ ∃ k, i ≤ k ∧ k < j ∧ f k = v := by
  simp only [seg, List.mem_map, List.mem_range]
  constructor
  · rintro ⟨k, h1, h2⟩
    exact ⟨i + k, by omega, by omega, h2⟩
  · rintro ⟨k, h1, h2, h3⟩
    refine ⟨(k - i).toNat, by omega, ?_⟩
    have : i + (((k - i).toNat : Nat) : Int) = k := by omega
    rw [this]; exact h3
/-- how many pairs can still come: of the last m numbers of the first row and the last n of the second -/
def lcs (a b : Int → Int) (na nb : Int) : Nat → Nat → Int
  | 0, _ => 0
  | _ + 1, 0 => 0
  | m + 1, n + 1 => if a (na - ((m : Int) + 1)) = b (nb - ((n : Int) + 1)) then lcs a b na nb m n + 1 else max (lcs a b na nb m (n + 1)) (lcs a b na nb (m + 1) n)
theorem lcs_0 (a b : Int → Int) (na nb : Int) (n : Nat) : lcs a b na nb 0 n = 0 := by cases n <;> simp [lcs]
theorem lcs_n0 (a b : Int → Int) (na nb : Int) (m : Nat) : lcs a b na nb m 0 = 0 := by cases m <;> simp [lcs]
theorem lcs_nn (a b : Int → Int) (na nb : Int) : ∀ (k m n : Nat), m + n ≤ k → 0 ≤ lcs a b na nb m n ∧ lcs a b na nb m n ≤ m := by
  intro k
  induction k with
  | zero =>
    intro m n h
    have : m = 0 := by omega
    subst this
    rw [lcs_0]; omega
  | succ k ih =>
    intro m n h
    match m, n, h with
    | 0, n, _ => rw [lcs_0]; omega
    | m + 1, 0, _ => rw [lcs_n0]; omega
    | m + 1, n + 1, h =>
      have h1 := ih m n (by omega)
      have h2 := ih m (n + 1) (by omega)
      have h3 := ih (m + 1) n (by omega)
      simp only [lcs]
      split <;> omega
theorem lcs_step (a b : Int → Int) (na nb : Int) : ∀ (k m n : Nat), m + n ≤ k → (lcs a b na nb m n ≤ lcs a b na nb (m + 1) n ∧ lcs a b na nb (m + 1) n ≤ lcs a b na nb m n + 1) ∧ (lcs a b na nb m n ≤ lcs a b na nb m (n + 1) ∧ lcs a b na nb m (n + 1) ≤ lcs a b na nb m n + 1) := by
  intro k
  induction k with
  | zero =>
    intro m n h
    have h1 : m = 0 := by omega
    have h2 : n = 0 := by omega
    subst h1 h2
    rw [lcs_0, lcs_n0, lcs_0]; omega
  | succ k ih =>
    intro m n h
    constructor
    · cases n with
      | zero => rw [lcs_n0, lcs_n0]; omega
      | succ n =>
        have h1 := (ih m n (by omega)).2
        have h0 := (ih m n (by omega)).1
        have hnn := lcs_nn a b na nb _ m (n + 1) (Nat.le_refl _)
        have hnm := lcs_nn a b na nb _ (m + 1) n (Nat.le_refl _)
        have hn0 := lcs_nn a b na nb _ m n (Nat.le_refl _)
        simp only [lcs]
        split <;> omega
    · cases m with
      | zero => rw [lcs_0, lcs_0]; omega
      | succ m =>
        have h1 := (ih m n (by omega)).1
        have h0 := (ih m n (by omega)).2
        simp only [lcs]
        split <;> omega
def lcv (a b : Int → Int) (na nb i j : Int) : Int := lcs a b na nb (na - i).toNat (nb - j).toNat
theorem lcv_r (a b : Int → Int) (na nb i j : Int) (h : na ≤ i + 16) : 0 ≤ lcv a b na nb i j ∧ lcv a b na nb i j ≤ 16 := by
  have := lcs_nn a b na nb _ (na - i).toNat (nb - j).toNat (Nat.le_refl _)
  unfold lcv
  omega
theorem lcv_a {a b : Int → Int} {na nb i j : Int} (h : na ≤ i) : lcv a b na nb i j = 0 := by
  have : (na - i).toNat = 0 := by omega
  rw [lcv, this, lcs_0]
theorem lcv_b {a b : Int → Int} {na nb i j : Int} (h : nb ≤ j) : lcv a b na nb i j = 0 := by
  have : (nb - j).toNat = 0 := by omega
  rw [lcv, this, lcs_n0]
theorem lcv_eq {a b : Int → Int} {na nb i j : Int} (h1 : i < na) (h2 : j < nb) : lcv a b na nb i j = if a i = b j then lcv a b na nb (i + 1) (j + 1) + 1 else max (lcv a b na nb (i + 1) j) (lcv a b na nb i (j + 1)) := by
  have e1 : (na - i).toNat = (na - (i + 1)).toNat + 1 := by omega
  have e2 : (nb - j).toNat = (nb - (j + 1)).toNat + 1 := by omega
  have e3 : na - (((na - (i + 1)).toNat : Int) + 1) = i := by omega
  have e4 : nb - (((nb - (j + 1)).toNat : Int) + 1) = j := by omega
  unfold lcv
  rw [e1, e2]
  simp only [lcs, e3, e4]
/-- the same, as three of which the largest is taken -/
theorem lcv_max {a b : Int → Int} {na nb i j : Int} (h1 : i < na) (h2 : j < nb) : lcv a b na nb i j = max (if a i = b j then lcv a b na nb (i + 1) (j + 1) + 1 else 0) (max (lcv a b na nb (i + 1) j) (lcv a b na nb i (j + 1))) := by
  rw [lcv_eq h1 h2]
  have hs := lcs_step a b na nb _ (na - (i + 1)).toNat (nb - (j + 1)).toNat (Nat.le_refl _)
  have e1 : (na - i).toNat = (na - (i + 1)).toNat + 1 := by omega
  have e2 : (nb - j).toNat = (nb - (j + 1)).toNat + 1 := by omega
  have hn := lcs_nn a b na nb _ (na - (i + 1)).toNat (nb - j).toNat (Nat.le_refl _)
  unfold lcv at *
  rw [e1, e2] at *
  split <;> omega
/-- the first place from j on, of n, with P; none: -9 -/
def fj (P : Int → Prop) [DecidablePred P] : Nat → Int → Int
  | 0, _ => -9
  | n + 1, j => if P j then j else fj P n (j + 1)
theorem fj_r {P : Int → Prop} [DecidablePred P] : ∀ (n : Nat) (j : Int), fj P n j = -9 ∨ (j ≤ fj P n j ∧ fj P n j < j + n ∧ P (fj P n j)) := by
  intro n
  induction n with
  | zero => intro j; exact Or.inl rfl
  | succ n ih =>
    intro j
    simp only [fj]
    split
    · exact Or.inr ⟨by omega, by omega, by assumption⟩
    · rcases ih (j + 1) with h | ⟨h1, h2, h3⟩
      · exact Or.inl h
      · exact Or.inr ⟨by omega, by omega, h3⟩
/-- the matching: what is left and where it goes on, ahead of place i; and the partner of place i -/
def mtN (a b : Int → Int) (na nb i : Int) (q : Int × Int) : Int := fj (fun j => a i = b j ∧ lcv a b na nb (i + 1) (j + 1) + 1 = q.1) (nb - q.2).toNat q.2
def mtS (a b : Int → Int) (na nb : Int) : Nat → Int × Int
  | 0 => (lcv a b na nb 0 0, 0)
  | i + 1 => if mtN a b na nb (i : Int) (mtS a b na nb i) = -9 then mtS a b na nb i else ((mtS a b na nb i).1 - 1, mtN a b na nb (i : Int) (mtS a b na nb i) + 1)
def mtP (a b : Int → Int) (na nb i : Int) : Int := mtN a b na nb i (mtS a b na nb i.toNat)
theorem mtS_0 (a b : Int → Int) (na nb : Int) : mtS a b na nb (0 : Int).toNat = (lcv a b na nb 0 0, 0) := rfl
theorem mtS_s {a b : Int → Int} {na nb i : Int} (h : 0 ≤ i) : mtS a b na nb (i + 1).toNat = if mtP a b na nb i = -9 then mtS a b na nb i.toNat else ((mtS a b na nb i.toNat).1 - 1, mtP a b na nb i + 1) := by
  have e : (i + 1).toNat = i.toNat + 1 := by omega
  have e2 : ((i.toNat : Nat) : Int) = i := Int.toNat_of_nonneg h
  rw [e, mtS, e2]
  rfl
theorem mtN_r (a b : Int → Int) (na nb i : Int) (q : Int × Int) (h0 : q.2 ≤ nb) : mtN a b na nb i q = -9 ∨ (q.2 ≤ mtN a b na nb i q ∧ mtN a b na nb i q < nb ∧ a i = b (mtN a b na nb i q) ∧ lcv a b na nb (i + 1) (mtN a b na nb i q + 1) + 1 = q.1) := by
  rcases fj_r (P := fun j => a i = b j ∧ lcv a b na nb (i + 1) (j + 1) + 1 = q.1) (nb - q.2).toNat q.2 with h | ⟨h1, h2, h3⟩
  · exact Or.inl h
  · refine Or.inr ⟨h1, ?_, h3⟩
    unfold mtN
    omega
theorem mtS_f (a b : Int → Int) {na nb : Int} (hb : 0 ≤ nb) : ∀ n : Nat, 0 ≤ (mtS a b na nb n).2 ∧ (mtS a b na nb n).2 ≤ nb := by
  intro n
  induction n with
  | zero => simp only [mtS]; omega
  | succ n ih =>
    simp only [mtS]
    split
    · exact ih
    · rcases mtN_r a b na nb n (mtS a b na nb n) ih.2 with h | ⟨h1, h2, -⟩
      · contradiction
      · dsimp only; omega
theorem mtS_l (a b : Int → Int) {na nb : Int} (ha : na ≤ 16) : ∀ n : Nat, -((n : Int)) ≤ (mtS a b na nb n).1 ∧ (mtS a b na nb n).1 ≤ 16 := by
  intro n
  induction n with
  | zero =>
    have := lcv_r a b na nb 0 0 (by omega)
    simp only [mtS]; omega
  | succ n ih =>
    simp only [mtS]
    split
    · omega
    · dsimp only; omega
/-- a partner lies behind the partners before -/
theorem mtP_r (a b : Int → Int) {na nb : Int} (i : Int) (hb : 0 ≤ nb) : mtP a b na nb i = -9 ∨ ((mtS a b na nb i.toNat).2 ≤ mtP a b na nb i ∧ mtP a b na nb i < nb ∧ a i = b (mtP a b na nb i)) := by
  rcases mtN_r a b na nb i _ (mtS_f a b (na := na) hb i.toNat).2 with h | ⟨h1, h2, h3, -⟩
  · exact Or.inl h
  · exact Or.inr ⟨h1, h2, h3⟩
theorem lcv_congr {a b a' b' : Int → Int} {na nb i j : Int} (ha : ∀ k, i ≤ k → k < na → a k = a' k) (hb : ∀ k, j ≤ k → k < nb → b k = b' k) : lcv a b na nb i j = lcv a' b' na nb i j := by
  have key : ∀ (k m n : Nat), m + n ≤ k → (m : Int) ≤ na - i ∨ m = 0 → (n : Int) ≤ nb - j ∨ n = 0 → lcs a b na nb m n = lcs a' b' na nb m n := by
    intro k
    induction k with
    | zero =>
      intro m n h _ _
      have : m = 0 := by omega
      subst this
      rw [lcs_0, lcs_0]
    | succ k ih =>
      intro m n h hm hn
      match m, n, h, hm, hn with
      | 0, n, _, _, _ => rw [lcs_0, lcs_0]
      | m + 1, 0, _, _, _ => rw [lcs_n0, lcs_n0]
      | m + 1, n + 1, h, hm, hn =>
        simp only [lcs]
        rw [ih m n (by omega) (by omega) (by omega), ih m (n + 1) (by omega) (by omega) (by omega), ih (m + 1) n (by omega) (by omega) (by omega), ha _ (by omega) (by omega), hb _ (by omega) (by omega)]
  exact key _ _ _ (Nat.le_refl _) (by omega) (by omega)
