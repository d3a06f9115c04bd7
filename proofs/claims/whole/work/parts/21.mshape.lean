/-! shapes -/
/-- the place of a number in a row; its length, if it isn't there -/
def nix : List Int → Int → Nat
  | [], _ => 0
  | a :: t, v => if a = v then 0 else nix t v + 1
theorem nix_le (s : List Int) (v : Int) : nix s v ≤ s.length := by
  induction s with
  | nil => simp [nix]
  | cons a t ih => simp only [nix, List.length_cons]; split <;> omega
theorem nix_at : ∀ (x : Nat) (s : List Int) (v : Int), (∀ y, y < x → s[y]? ≠ some v) → s[x]? = some v → nix s v = x := by
  intro x
  induction x with
  | zero =>
    intro s v h1 h2
    cases s with
    | nil => simp at h2
    | cons a t => simp at h2; simp [nix, h2]
  | succ x ih =>
    intro s v h1 h2
    cases s with
    | nil => simp at h2
    | cons a t =>
      have ha : ¬ a = v := fun e => h1 0 (by omega) (by simp [e])
      simp only [nix, if_neg ha]
      rw [ih t v (fun y hy => by have := h1 (y + 1) (by omega); simpa using this) (by simpa using h2)]
theorem nix_no : ∀ (s : List Int) (v : Int), v ∉ s → nix s v = s.length := by
  intro s
  induction s with
  | nil => intro v _; rfl
  | cons a t ih =>
    intro v h
    simp only [List.mem_cons, not_or] at h
    have ha : ¬ a = v := fun e => h.1 e.symm
    simp only [nix, if_neg ha, List.length_cons]
    rw [ih v h.2]
theorem nix_lt : ∀ (s : List Int) (v : Int), v ∈ s → nix s v < s.length := by
  intro s
  induction s with
  | nil => intro v h; simp at h
  | cons a t ih =>
    intro v h
    simp only [nix, List.length_cons]
    split
    · omega
    · have := ih v (by rcases List.mem_cons.mp h with h | h
                       · exact absurd h.symm (by assumption)
                       · exact h)
      omega
def shStep (s : List Int × List Int) (v : Int) : List Int × List Int := (s.1 ++ [(nix s.2 v : Int)], if v ∈ s.2 then s.2 else s.2 ++ [v])
def shPart (s : List Int × List Int) (p : List Int) : List Int × List Int := p.foldl shStep (s.1 ++ [(p.length : Int)], s.2)
def shpSeq (B X Y : List Int) : List Int × List Int := shPart (shPart (shPart ([], []) B) X) Y
/-- 0 unless the second comes first -/
def lxF : List Int → List Int → Int
  | x :: s, y :: t => if x = y then lxF s t else if x < y then 0 else 1
  | _, _ => 0
theorem shStep_l (s : List Int × List Int) (v : Int) : (shStep s v).1.length = s.1.length + 1 ∧ s.2.length ≤ (shStep s v).2.length ∧ (shStep s v).2.length ≤ s.2.length + 1 := by
  refine ⟨by simp [shStep], ?_⟩
  simp only [shStep]
  split <;> simp
theorem shFold_l : ∀ (p : List Int) (s : List Int × List Int), (p.foldl shStep s).1.length = s.1.length + p.length ∧ (p.foldl shStep s).2.length ≤ s.2.length + p.length := by
  intro p
  induction p with
  | nil => intro s; simp
  | cons v p ih =>
    intro s
    have h1 := ih (shStep s v)
    have h2 := shStep_l s v
    simp only [List.foldl_cons, List.length_cons]
    omega
theorem shPart_l (s : List Int × List Int) (p : List Int) : (shPart s p).1.length = s.1.length + 1 + p.length ∧ (shPart s p).2.length ≤ s.2.length + p.length := by
  have := shFold_l p (s.1 ++ [(p.length : Int)], s.2)
  simp only [shPart]
  simp only [List.length_append, List.length_cons, List.length_nil] at this
  omega
theorem shpSeq_l (B X Y : List Int) : (shpSeq B X Y).1.length = 3 + B.length + X.length + Y.length ∧ (shpSeq B X Y).2.length ≤ B.length + X.length + Y.length := by
  have h1 := shPart_l ([], []) B
  have h2 := shPart_l (shPart ([], []) B) X
  have h3 := shPart_l (shPart (shPart ([], []) B) X) Y
  simp only [shpSeq]
  simp only [List.length_nil] at h1
  omega
theorem shFold_ln : ∀ (p : List Int) (s : List Int × List Int), isLn p → isLn s.2 → isLn (p.foldl shStep s).2 := by
  intro p
  induction p with
  | nil => intro s _ h; exact h
  | cons v p ih =>
    intro s hp hs
    simp only [List.foldl_cons]
    refine ih _ (fun w hw => hp w (List.mem_cons_of_mem _ hw)) ?_
    simp only [shStep]
    split
    · exact hs
    · exact hs.app (fun w hw => by simp at hw; rw [hw]; exact hp v List.mem_cons_self)
theorem shPart_ln {s : List Int × List Int} {p : List Int} (hp : isLn p) (hs : isLn s.2) : isLn (shPart s p).2 := shFold_ln p _ hp hs
theorem shpSeq_ln {B X Y : List Int} (hB : isLn B) (hX : isLn X) (hY : isLn Y) : isLn (shpSeq B X Y).2 := shPart_ln hY (shPart_ln hX (shPart_ln hB isLn.nil))
/-- the names and the shape of list l as they stand -/
def nmM (J : Nat → Int → Int) (o : Nat) (l : Int) (s : List Int) : Prop := J (o + 19) l = s.length ∧ seg (J (o + 18)) (48 * l) (48 * l + s.length) = s
def shM (J : Nat → Int → Int) (o : Nat) (l : Int) (s : List Int × List Int) : Prop := seg (J (o + 17)) (51 * l) (51 * l + s.1.length) = s.1 ∧ nmM J o l s.2
def agS (B J : Nat → Int → Int) (o : Nat) (l : Int) : Prop := (∀ q, q ≠ o + 17 → q ≠ o + 18 → q ≠ o + 19 → J q = B q) ∧ (∀ j, j < 51 * l ∨ 51 * l + 51 ≤ j → J (o + 17) j = B (o + 17) j) ∧ (∀ j, j < 48 * l ∨ 48 * l + 48 ≤ j → J (o + 18) j = B (o + 18) j) ∧ ∀ k, k ≠ l → J (o + 19) k = B (o + 19) k
theorem agS.rf {B : Nat → Int → Int} {o : Nat} {l : Int} : agS B B o l := ⟨fun _ _ _ _ => rfl, fun _ _ => rfl, fun _ _ => rfl, fun _ _ => rfl⟩
theorem agS.tr {A B C : Nat → Int → Int} {o : Nat} {l : Int} (h1 : agS A B o l) (h2 : agS B C o l) : agS A C o l := ⟨fun q a b c => (h2.1 q a b c).trans (h1.1 q a b c), fun j a => (h2.2.1 j a).trans (h1.2.1 j a), fun j a => (h2.2.2.1 j a).trans (h1.2.2.1 j a), fun k a => (h2.2.2.2 k a).trans (h1.2.2.2 k a)⟩
theorem shM.other {B J : Nat → Int → Int} {o : Nat} {l m : Int} {s : List Int × List Int} (h : shM B o m s) (ha : agS B J o l) (hlm : (m = 0 ∧ l = 1) ∨ (m = 1 ∧ l = 0)) (h1 : s.1.length ≤ 51) (h2 : s.2.length ≤ 48) : shM J o m s := by
  obtain ⟨s1, s2, s3⟩ := h
  refine ⟨?_, ?_, ?_⟩
  · refine Eq.trans (seg_congr (fun k a b => ha.2.1 k ?_)) s1
    omega
  · rw [ha.2.2.2 m (by omega)]; exact s2
  · refine Eq.trans (seg_congr (fun k a b => ha.2.2.1 k ?_)) s3
    omega

set_option maxHeartbeats 4000000 in
set_option maxRecDepth 100000 in
theorem m_nameOf {G : ax_G} {T : Nat → Nat} {N : Nat → Int} {I : Nat → Int → Int} {R : Nat → Int → Option Nat} {z o : Nat} (M : axMo T N R o) {v l : Int} {s : List Int} (hs : nmM I o l s) (hln : isLn s) (hv : 0 ≤ v ∧ v < 100) (hl : l = 0 ∨ l = 1) (hr : s.length < 48) : axEx G YX12_nameOf 0 [vR o, vI v, vI l] T N I R z (fun r1 I1 => r1 = some (vI (nix s v)) ∧ agS I I1 o l ∧ nmM I1 o l (if v ∈ s then s else s ++ [v]) ∧ I1 (o + 17) = I (o + 17)) := by

  refine ax_enter (by decide) (Nat.le_of_ble_eq_true rfl) (ax_cat rfl) (fun f hC => ?_)
  show axX G f 0 0 _ 0 [vR o, vI v, vI l, vU] [] T N I R z 0 0
  have hnm := hs.1
  have rd : ∀ x : Nat, x < s.length → s[x]? = some (I (o + 18) (48 * l + x)) := fun x hx => by
    have := seg_get (f := I (o + 18)) (i := 48 * l) (j := 48 * l + s.length) (k := x) (by omega)
    rw [hs.2] at this
    exact this
  have rng : ∀ x : Nat, x < s.length → 0 ≤ I (o + 18) (48 * l + x) ∧ I (o + 18) (48 * l + x) < 100 := fun x hx => hln _ (List.mem_of_getElem? (rd x hx))
  have loop : ∀ (n x : Nat), s.length - x ≤ n → x ≤ s.length → (∀ y, y < x → s[y]? ≠ some v) → axX G f 0 0 (fun r1 T1 N1 I1 R1 z1 => (r1 = some (vI (nix s v)) ∧ agS I I1 o l ∧ nmM I1 o l (if v ∈ s then s else s ++ [v]) ∧ I1 (o + 17) = I (o + 17)) ∧ T1 = T ∧ N1 = N ∧ R1 = R ∧ z1 = z) 2 [vR o, vI v, vI l, vI (x : Int)] [] T N I R z 0 0 := by
    intro n
    induction n with
    | zero =>
      intro x hn h1 hy
      refine x_iload_n (pc := 2) hC dX12_nameOf_2 rfl ?_
      refine x_aload_n (pc := 3) hC dX12_nameOf_3 rfl ?_
      refine x_getO (pc := 4) hC gf_X12_64 dX12_nameOf_4 M.1 (mo_names M).1 ?_
      refine x_iload_n (pc := 7) hC dX12_nameOf_7 rfl ?_
      refine x_iald (pc := 8) hC dX12_nameOf_8 (mo_names M).2.1 (by omega) (by rw [(mo_names M).2.2]; omega) ?_
      refine x_icmp_ge (pc := 9) hC 35 dX12_nameOf_9 (by decide) (by omega) (by omega) (fun b9 => ?_) (fun b9 => ?_)
      · have hx : x = s.length := by omega
        have hno : v ∉ s := by
          intro hin
          obtain ⟨y, hy2⟩ := List.getElem?_of_mem hin
          exact hy y (by have := (List.getElem?_eq_some_iff.mp hy2).1; omega) hy2
        have e19 : ax_u I (o + 18) (48 * l + I (o + 19) l) v (o + 19) = I (o + 19) := axu_row (by omega)
        refine x_aload_n (pc := 35) hC dX12_nameOf_35 rfl ?_
        refine x_getO (pc := 36) hC gf_X12_61 dX12_nameOf_36 M.1 (mo_named M).1 ?_
        refine x_bipush (pc := 39) hC dX12_nameOf_39 (by decide) ?_
        refine x_iload_n (pc := 41) hC dX12_nameOf_41 rfl ?_
        refine x_imul (pc := 42) hC dX12_nameOf_42 ?_
        refine x_aload_n (pc := 43) hC dX12_nameOf_43 rfl ?_
        refine x_getO (pc := 44) hC gf_X12_64 dX12_nameOf_44 M.1 (mo_names M).1 ?_
        refine x_iload_n (pc := 47) hC dX12_nameOf_47 rfl ?_
        refine x_iald (pc := 48) hC dX12_nameOf_48 (mo_names M).2.1 (by omega) (by rw [(mo_names M).2.2]; omega) ?_
        refine x_iadd (pc := 49) hC dX12_nameOf_49 ?_
        refine x_iload_n (pc := 50) hC dX12_nameOf_50 rfl ?_
        refine x_iast (pc := 51) hC dX12_nameOf_51 (mo_named M).2.1 (by omega) (by rw [(mo_named M).2.2]; omega) ?_
        
        refine x_aload_n (pc := 52) hC dX12_nameOf_52 rfl ?_
        refine x_getO (pc := 53) hC gf_X12_64 dX12_nameOf_53 M.1 (mo_names M).1 ?_
        refine x_iload_n (pc := 56) hC dX12_nameOf_56 rfl ?_
        refine x_dup2 (pc := 57) hC dX12_nameOf_57 rfl rfl ?_
        refine x_iald (pc := 58) hC dX12_nameOf_58 (mo_names M).2.1 (by omega) (by rw [(mo_names M).2.2]; omega) ?_
        rw [e19]
        refine x_iconst (pc := 59) hC dX12_nameOf_59 ?_
        refine x_iadd (pc := 60) hC dX12_nameOf_60 ?_
        refine x_iast (pc := 61) hC dX12_nameOf_61 (mo_names M).2.1 (by omega) (by rw [(mo_names M).2.2]; omega) ?_
        refine x_aload_n (pc := 62) hC dX12_nameOf_62 rfl ?_
        refine x_getO (pc := 63) hC gf_X12_64 dX12_nameOf_63 M.1 (mo_names M).1 ?_
        refine x_iload_n (pc := 66) hC dX12_nameOf_66 rfl ?_
        refine x_iald (pc := 67) hC dX12_nameOf_67 (mo_names M).2.1 (by omega) (by rw [(mo_names M).2.2]; omega) ?_
        refine x_iconst (pc := 68) hC dX12_nameOf_68 ?_
        refine x_isub (pc := 69) hC dX12_nameOf_69 ?_
        refine x_iret (pc := 70) hC rfl dX12_nameOf_70 ?_
        rw [axu_s]
        refine ⟨⟨by rw [nix_no s v hno, hnm]; congr 2; omega, ⟨fun q a b c => by rw [axu_row c, axu_row b], fun j _ => by rw [axu_a (by omega), axu_a (by omega)], fun j a => by rw [axu_a (by omega), axu_j (by omega)], fun k a => by rw [axu_j a, axu_a (by omega)]⟩, ?_, by rw [axu_row (by omega), axu_row (by omega)]⟩, rfl, rfl, rfl, rfl⟩
        rw [if_neg hno]
        refine ⟨by rw [axu_s, hnm]; simp, ?_⟩
        have hlen : (((s ++ [v]).length : Nat) : Int) = s.length + 1 := by simp
        rw [hlen, ← Int.add_assoc, seg_snoc (by omega), axu_row (show o + 18 ≠ o + 19 by omega), hnm, axu_s]
        congr 1
        exact Eq.trans (seg_congr (fun k _ hk => axu_j (by omega))) hs.2
      · omega
    | succ n ih =>
      intro x hn h1 hy
      refine x_iload_n (pc := 2) hC dX12_nameOf_2 rfl ?_
      refine x_aload_n (pc := 3) hC dX12_nameOf_3 rfl ?_
      refine x_getO (pc := 4) hC gf_X12_64 dX12_nameOf_4 M.1 (mo_names M).1 ?_
      refine x_iload_n (pc := 7) hC dX12_nameOf_7 rfl ?_
      refine x_iald (pc := 8) hC dX12_nameOf_8 (mo_names M).2.1 (by omega) (by rw [(mo_names M).2.2]; omega) ?_
      refine x_icmp_ge (pc := 9) hC 35 dX12_nameOf_9 (by decide) (by omega) (by omega) (fun b9 => ?_) (fun b9 => ?_)
      · have hx : x = s.length := by omega
        have hno : v ∉ s := by
          intro hin
          obtain ⟨y, hy2⟩ := List.getElem?_of_mem hin
          exact hy y (by have := (List.getElem?_eq_some_iff.mp hy2).1; omega) hy2
        have e19 : ax_u I (o + 18) (48 * l + I (o + 19) l) v (o + 19) = I (o + 19) := axu_row (by omega)
        refine x_aload_n (pc := 35) hC dX12_nameOf_35 rfl ?_
        refine x_getO (pc := 36) hC gf_X12_61 dX12_nameOf_36 M.1 (mo_named M).1 ?_
        refine x_bipush (pc := 39) hC dX12_nameOf_39 (by decide) ?_
        refine x_iload_n (pc := 41) hC dX12_nameOf_41 rfl ?_
        refine x_imul (pc := 42) hC dX12_nameOf_42 ?_
        refine x_aload_n (pc := 43) hC dX12_nameOf_43 rfl ?_
        refine x_getO (pc := 44) hC gf_X12_64 dX12_nameOf_44 M.1 (mo_names M).1 ?_
        refine x_iload_n (pc := 47) hC dX12_nameOf_47 rfl ?_
        refine x_iald (pc := 48) hC dX12_nameOf_48 (mo_names M).2.1 (by omega) (by rw [(mo_names M).2.2]; omega) ?_
        refine x_iadd (pc := 49) hC dX12_nameOf_49 ?_
        refine x_iload_n (pc := 50) hC dX12_nameOf_50 rfl ?_
        refine x_iast (pc := 51) hC dX12_nameOf_51 (mo_named M).2.1 (by omega) (by rw [(mo_named M).2.2]; omega) ?_
        
        refine x_aload_n (pc := 52) hC dX12_nameOf_52 rfl ?_
        refine x_getO (pc := 53) hC gf_X12_64 dX12_nameOf_53 M.1 (mo_names M).1 ?_
        refine x_iload_n (pc := 56) hC dX12_nameOf_56 rfl ?_
        refine x_dup2 (pc := 57) hC dX12_nameOf_57 rfl rfl ?_
        refine x_iald (pc := 58) hC dX12_nameOf_58 (mo_names M).2.1 (by omega) (by rw [(mo_names M).2.2]; omega) ?_
        rw [e19]
        refine x_iconst (pc := 59) hC dX12_nameOf_59 ?_
        refine x_iadd (pc := 60) hC dX12_nameOf_60 ?_
        refine x_iast (pc := 61) hC dX12_nameOf_61 (mo_names M).2.1 (by omega) (by rw [(mo_names M).2.2]; omega) ?_
        refine x_aload_n (pc := 62) hC dX12_nameOf_62 rfl ?_
        refine x_getO (pc := 63) hC gf_X12_64 dX12_nameOf_63 M.1 (mo_names M).1 ?_
        refine x_iload_n (pc := 66) hC dX12_nameOf_66 rfl ?_
        refine x_iald (pc := 67) hC dX12_nameOf_67 (mo_names M).2.1 (by omega) (by rw [(mo_names M).2.2]; omega) ?_
        refine x_iconst (pc := 68) hC dX12_nameOf_68 ?_
        refine x_isub (pc := 69) hC dX12_nameOf_69 ?_
        refine x_iret (pc := 70) hC rfl dX12_nameOf_70 ?_
        rw [axu_s]
        refine ⟨⟨by rw [nix_no s v hno, hnm]; congr 2; omega, ⟨fun q a b c => by rw [axu_row c, axu_row b], fun j _ => by rw [axu_a (by omega), axu_a (by omega)], fun j a => by rw [axu_a (by omega), axu_j (by omega)], fun k a => by rw [axu_j a, axu_a (by omega)]⟩, ?_, by rw [axu_row (by omega), axu_row (by omega)]⟩, rfl, rfl, rfl, rfl⟩
        rw [if_neg hno]
        refine ⟨by rw [axu_s, hnm]; simp, ?_⟩
        have hlen : (((s ++ [v]).length : Nat) : Int) = s.length + 1 := by simp
        rw [hlen, ← Int.add_assoc, seg_snoc (by omega), axu_row (show o + 18 ≠ o + 19 by omega), hnm, axu_s]
        congr 1
        exact Eq.trans (seg_congr (fun k _ hk => axu_j (by omega))) hs.2
      · have hx : x < s.length := by omega
        have hr2 := rng x hx
        have hd := rd x hx
        refine x_aload_n (pc := 12) hC dX12_nameOf_12 rfl ?_
        refine x_getO (pc := 13) hC gf_X12_61 dX12_nameOf_13 M.1 (mo_named M).1 ?_
        refine x_bipush (pc := 16) hC dX12_nameOf_16 (by decide) ?_
        refine x_iload_n (pc := 18) hC dX12_nameOf_18 rfl ?_
        refine x_imul (pc := 19) hC dX12_nameOf_19 ?_
        refine x_iload_n (pc := 20) hC dX12_nameOf_20 rfl ?_
        refine x_iadd (pc := 21) hC dX12_nameOf_21 ?_
        refine x_iald (pc := 22) hC dX12_nameOf_22 (mo_named M).2.1 (by omega) (by rw [(mo_named M).2.2]; omega) ?_
        refine x_iload_n (pc := 23) hC dX12_nameOf_23 rfl ?_
        refine x_icmp_ne (pc := 24) hC 29 dX12_nameOf_24 (by decide) (by omega) (by omega) (fun b24 => ?_) (fun b24 => ?_)
        · refine x_iinc (pc := 29) hC dX12_nameOf_29 rfl ?_
          dsimp only [List.set]
          refine x_goto (pc := 32) hC 2 dX12_nameOf_32 (by decide) ?_
          refine ih (x + 1) (by omega) (by omega) (fun y hy2 => ?_)
          by_cases hyx : y = x
          · rw [hyx, hd]
            intro he
            exact absurd (Option.some.inj he) (by assumption)
          · exact hy y (by omega)
        · refine x_iload_n (pc := 27) hC dX12_nameOf_27 rfl ?_
          refine x_iret (pc := 28) hC rfl dX12_nameOf_28 ?_
          have hsx : s[x]? = some v := by rw [hd]; congr 1
          have hin : v ∈ s := List.mem_of_getElem? hsx
          exact ⟨⟨by rw [nix_at x s v hy hsx], agS.rf, by rw [if_pos hin]; exact hs, rfl⟩, rfl, rfl, rfl, rfl⟩
  refine x_iconst (pc := 0) hC dX12_nameOf_0 ?_
  refine x_istore_n (pc := 1) hC dX12_nameOf_1 (Nat.le_of_ble_eq_true rfl) ?_
  dsimp only [List.set]
  exact loop s.length 0 (by omega) (by omega) (fun y hy => by omega)

set_option maxHeartbeats 4000000 in
set_option maxRecDepth 100000 in
theorem m_shapes {G : ax_G} {T : Nat → Nat} {N : Nat → Int} {I : Nat → Int → Int} {R : Nat → Int → Option Nat} {z o : Nat} (M : axMo T N R o) {l c i e : Int} {s : List Int × List Int} (hs : shM I o l s) (hlo : lnOk I o) (hln : isLn s.2) (hl : l = 0 ∨ l = 1) (hc : 0 ≤ c ∧ c < 26) (hi : 0 ≤ i ∧ i ≤ e ∧ e ≤ 16) (hr : (s.1.length : Int) + 1 + (e - i) ≤ 51) (hr2 : (s.2.length : Int) + (e - i) ≤ 48) : axEx G YX12_shapes 1 [vR o, vI l, vI s.1.length, vI c, vI i, vI e] T N I R z (fun r1 I1 => r1 = some (vI ((shPart s (seg (rwI I o c) i e)).1.length : Int)) ∧ agS I I1 o l ∧ shM I1 o l (shPart s (seg (rwI I o c) i e))) := by

  refine ax_enter (by decide) (Nat.le_of_ble_eq_true rfl) (ax_cat rfl) (fun f hC => ?_)
  show axX G f 0 0 _ 0 [vR o, vI l, vI s.1.length, vI c, vI i, vI e, vU, vU] [] T N I R z 0 0
  have loop : ∀ (n : Nat) (x y : Int) (J : Nat → Int → Int), (e - x).toNat ≤ n → i ≤ x → x ≤ e → y = ((seg (rwI I o c) i x).foldl shStep (s.1 ++ [e - i], s.2)).1.length → agS I J o l → shM J o l ((seg (rwI I o c) i x).foldl shStep (s.1 ++ [e - i], s.2)) → axX G f 0 0 (fun r1 T1 N1 I1 R1 z1 => (r1 = some (vI ((shPart s (seg (rwI I o c) i e)).1.length : Int)) ∧ agS I I1 o l ∧ shM I1 o l (shPart s (seg (rwI I o c) i e))) ∧ T1 = T ∧ N1 = N ∧ R1 = R ∧ z1 = z) 27 [vR o, vI l, vI s.1.length, vI c, vI i, vI e, vI y, vI x] [] T N J R z 0 0 := by
    intro n
    induction n with
    | zero =>
      intro x y J hn h1 h2 hy hJ hM
      refine x_iload (pc := 27) hC dX12_shapes_27 rfl ?_
      refine x_iload (pc := 29) hC dX12_shapes_29 rfl ?_
      refine x_icmp_ge (pc := 31) hC 72 dX12_shapes_31 (by decide) (by omega) (by omega) (fun b31 => ?_) (fun b31 => ?_)
      · refine x_iload (pc := 72) hC dX12_shapes_72 rfl ?_
        refine x_iret (pc := 74) hC rfl dX12_shapes_74 ?_
        have hx : x = e := by omega
        rw [hx] at hM hy
        have hp : shPart s (seg (rwI I o c) i e) = (seg (rwI I o c) i e).foldl shStep (s.1 ++ [e - i], s.2) := by
          unfold shPart
          rw [seg_len]
          have : (((e - i).toNat : Nat) : Int) = e - i := by omega
          rw [this]
        exact ⟨⟨by rw [hp, hy], hJ, by rw [hp]; exact hM⟩, rfl, rfl, rfl, rfl⟩
      · omega
    | succ n ih =>
      intro x y J hn h1 h2 hy hJ hM
      have e5 : J (o + 5) = I (o + 5) := hJ.1 (o + 5) (by omega) (by omega) (by omega)
      have hlv := hlo.1 (16 * c + x)
      have hfl := shFold_l (seg (rwI I o c) i x) (s.1 ++ [e - i], s.2)
      simp only [List.length_append, List.length_cons, List.length_nil, seg_len] at hfl
      refine x_iload (pc := 27) hC dX12_shapes_27 rfl ?_
      refine x_iload (pc := 29) hC dX12_shapes_29 rfl ?_
      refine x_icmp_ge (pc := 31) hC 72 dX12_shapes_31 (by decide) (by omega) (by omega) (fun b31 => ?_) (fun b31 => ?_)
      · refine x_iload (pc := 72) hC dX12_shapes_72 rfl ?_
        refine x_iret (pc := 74) hC rfl dX12_shapes_74 ?_
        have hx : x = e := by omega
        rw [hx] at hM hy
        have hp : shPart s (seg (rwI I o c) i e) = (seg (rwI I o c) i e).foldl shStep (s.1 ++ [e - i], s.2) := by
          unfold shPart
          rw [seg_len]
          have : (((e - i).toNat : Nat) : Int) = e - i := by omega
          rw [this]
        exact ⟨⟨by rw [hp, hy], hJ, by rw [hp]; exact hM⟩, rfl, rfl, rfl, rfl⟩
      · refine x_aload_n (pc := 34) hC dX12_shapes_34 rfl ?_
        refine x_getO (pc := 35) hC gf_X12_58 dX12_shapes_35 M.1 (mo_shape M).1 ?_
        refine x_bipush (pc := 38) hC dX12_shapes_38 (by decide) ?_
        refine x_iload_n (pc := 40) hC dX12_shapes_40 rfl ?_
        refine x_imul (pc := 41) hC dX12_shapes_41 ?_
        refine x_iload (pc := 42) hC dX12_shapes_42 rfl ?_
        refine x_iadd (pc := 44) hC dX12_shapes_44 ?_
        refine x_aload_n (pc := 45) hC dX12_shapes_45 rfl ?_
        refine x_aload_n (pc := 46) hC dX12_shapes_46 rfl ?_
        refine x_getO (pc := 47) hC gf_X12_22 dX12_shapes_47 M.1 (mo_line M).1 ?_
        refine x_bipush (pc := 50) hC dX12_shapes_50 (by decide) ?_
        refine x_iload_n (pc := 52) hC dX12_shapes_52 rfl ?_
        refine x_imul (pc := 53) hC dX12_shapes_53 ?_
        refine x_iload (pc := 54) hC dX12_shapes_54 rfl ?_
        refine x_iadd (pc := 56) hC dX12_shapes_56 ?_
        refine x_iald (pc := 57) hC dX12_shapes_57 (mo_line M).2.1 (by omega) (by rw [(mo_line M).2.2]; omega) ?_
        refine x_iload_n (pc := 58) hC dX12_shapes_58 rfl ?_
        rw [e5]
        refine x_mVx (pc := 59) hC cv_X12_222 dX12_shapes_59 (m_nameOf M hM.2 (shFold_ln _ _ (seg_isLn (fun j => hlo.1 _) i x) hln) hlv hl (by omega)) M.1 rfl (by decide) rfl rfl (Nat.le_of_ble_eq_true rfl) ?_
        rintro v K ⟨rfl, hK, hnK, hsK⟩
        dsimp only [Option.toList, List.cons_append, List.nil_append]
        refine x_iast (pc := 62) hC dX12_shapes_62 (mo_shape M).2.1 (by omega) (by rw [(mo_shape M).2.2]; omega) ?_
        refine x_iinc (pc := 63) hC dX12_shapes_63 rfl ?_
        dsimp only [List.set]
        refine x_iinc (pc := 66) hC dX12_shapes_66 rfl ?_
        dsimp only [List.set]
        refine x_goto (pc := 69) hC 27 dX12_shapes_69 (by decide) ?_
        have hst : (seg (rwI I o c) i (x + 1)).foldl shStep (s.1 ++ [e - i], s.2) = shStep ((seg (rwI I o c) i x).foldl shStep (s.1 ++ [e - i], s.2)) (rwI I o c x) := by
          rw [seg_snoc h1, List.foldl_append]; rfl
        refine ih (x + 1) _ _ (by omega) (by omega) (by omega) ?_ ?_ ?_
        · rw [hst, hy]; simp [shStep]
        · refine hJ.tr (hK.tr ⟨fun q a b c => axu_row a, fun j a => axu_j (by rw [hy]; omega), fun j _ => axu_a (by omega), fun k _ => axu_a (by omega)⟩)
        · rw [hst]
          refine ⟨?_, ?_⟩
          · have hlen : (((shStep ((seg (rwI I o c) i x).foldl shStep (s.1 ++ [e - i], s.2)) (rwI I o c x)).1.length : Nat) : Int) = ((seg (rwI I o c) i x).foldl shStep (s.1 ++ [e - i], s.2)).1.length + 1 := by simp [shStep]
            rw [hlen, ← Int.add_assoc, seg_snoc (by omega), ← hy, axu_s]
            show _ = ((seg (rwI I o c) i x).foldl shStep (s.1 ++ [e - i], s.2)).1 ++ [(nix ((seg (rwI I o c) i x).foldl shStep (s.1 ++ [e - i], s.2)).2 (rwI I o c x) : Int)]
            congr 1
            have hM1 := hM.1
            rw [← hy] at hM1
            refine Eq.trans (seg_congr (fun k _ hk => ?_)) hM1
            rw [axu_j (by omega), hsK]
          · refine ⟨?_, ?_⟩
            · rw [axu_a (by omega)]; exact hnK.1
            · rw [axu_row (by omega)]; exact hnK.2
  refine x_iload_n (pc := 0) hC dX12_shapes_0 rfl ?_
  refine x_istore (pc := 1) hC dX12_shapes_1 (Nat.le_of_ble_eq_true rfl) ?_
  dsimp only [List.set]
  refine x_aload_n (pc := 3) hC dX12_shapes_3 rfl ?_
  refine x_getO (pc := 4) hC gf_X12_58 dX12_shapes_4 M.1 (mo_shape M).1 ?_
  refine x_bipush (pc := 7) hC dX12_shapes_7 (by decide) ?_
  refine x_iload_n (pc := 9) hC dX12_shapes_9 rfl ?_
  refine x_imul (pc := 10) hC dX12_shapes_10 ?_
  refine x_iload (pc := 11) hC dX12_shapes_11 rfl ?_
  refine x_iadd (pc := 13) hC dX12_shapes_13 ?_
  refine x_iload (pc := 14) hC dX12_shapes_14 rfl ?_
  refine x_iload (pc := 16) hC dX12_shapes_16 rfl ?_
  refine x_isub (pc := 18) hC dX12_shapes_18 ?_
  refine x_iast (pc := 19) hC dX12_shapes_19 (mo_shape M).2.1 (by omega) (by rw [(mo_shape M).2.2]; omega) ?_
  refine x_iinc (pc := 20) hC dX12_shapes_20 rfl ?_
  dsimp only [List.set]
  refine x_iload (pc := 23) hC dX12_shapes_23 rfl ?_
  refine x_istore (pc := 25) hC dX12_shapes_25 (Nat.le_of_ble_eq_true rfl) ?_
  dsimp only [List.set]
  refine loop (e - i).toNat i _ _ (Nat.le_refl _) (by omega) (by omega) ?_ ⟨fun q a b c => axu_row a, fun j a => axu_j (by omega), fun j _ => axu_a (by omega), fun k _ => axu_a (by omega)⟩ ?_
  · rw [seg_nil (Int.le_refl _)]; simp
  · rw [seg_nil (Int.le_refl _)]
    simp only [List.foldl_nil]
    refine ⟨?_, ?_, ?_⟩
    · have hlen : (((s.1 ++ [e - i]).length : Nat) : Int) = s.1.length + 1 := by simp
      rw [hlen, ← Int.add_assoc, seg_snoc (by omega), axu_s]
      congr 1
      exact Eq.trans (seg_congr (fun k _ hk => axu_j (by omega))) hs.1
    · rw [axu_a (by omega)]; exact hs.2.1
    · rw [axu_row (by omega)]; exact hs.2.2

