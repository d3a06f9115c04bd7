/-! THE CLASS: the same pieces; shapes -/
theorem mtT_o {T : Nat → Nat} {N : Nat → Int} {R : Nat → Int → Option Nat} {m : Nat} (h : mtT T N R m) {x : Int} (h0 : 0 ≤ x) (h1 : x < 17) : R (m + 3) x = some (m + 5 + 2 * x.toNat) ∧ R (m + 4) x = some (m + 6 + 2 * x.toNat) := by
  obtain ⟨a, -, b, -⟩ := h.2.2.2.2.2 x.toNat (by omega)
  rw [show ((x.toNat : Nat) : Int) = x by omega] at a b
  exact ⟨a, b⟩
theorem seg_gt {f : Int → Int} {l : List Int} (h : seg f 0 l.length = l) {i : Int} (h0 : 0 ≤ i) (h1 : i < l.length) : l[i.toNat]? = some (f i) := by
  have := seg_get (f := f) (i := 0) (j := l.length) (k := i.toNat) (by omega)
  rw [h] at this
  rw [this, show (0 : Int) + ((i.toNat : Nat) : Int) = i by omega]
theorem seg_push {f g : Int → Int} {l : List Int} {v : Int} (h : seg f 0 l.length = l) (hg : ∀ k : Int, 0 ≤ k → k < l.length → g k = f k) (hv : g l.length = v) : seg g 0 ((l ++ [v]).length : Nat) = l ++ [v] := by
  have e : (((l ++ [v]).length : Nat) : Int) = (l.length : Int) + 1 := by simp
  rw [e, seg_snoc (by omega), hv, seg_congr (g := f) (fun k a b => hg k a b), h]
def shT (T : Nat → Nat) (N : Nat → Int) (R : Nat → Int → Option Nat) (s : Nat) : Prop := T s = 8 ∧ (R s 0 = some (s + 1) ∧ T (s + 1) = 13 ∧ N (s + 1) = 51) ∧ R s 2 = some (s + 2) ∧ T (s + 2) = 13 ∧ N (s + 2) = 48
def shS (I : Nat → Int → Int) (s : Nat) (q : List Int × List Int) : Prop := (I s 1 = q.1.length ∧ seg (I (s + 1)) 0 q.1.length = q.1) ∧ I s 3 = q.2.length ∧ seg (I (s + 2)) 0 q.2.length = q.2
theorem shS_push {J : Nat → Int → Int} {s : Nat} {q : List Int × List Int} {v w : Int} (h : shS J s q) (hw : w = J s 1 + 1) : shS (ax_u (ax_u J (s + 1) (J s 1) v) s 1 w) s (q.1 ++ [v], q.2) := by
  obtain ⟨⟨h1, h2⟩, h3, h4⟩ := h
  refine ⟨⟨?_, ?_⟩, ?_, ?_⟩
  · rw [axu_s, hw, h1]; simp
  · refine seg_push h2 (fun k a b => ?_) ?_
    · rw [axu_a (by omega), axu_j (by omega)]
    · rw [axu_a (by omega), h1, axu_s]
  · rw [axu_j (by decide), axu_a (by omega)]; exact h3
  · rw [axu_row (by omega), axu_row (by omega)]; exact h4
theorem shS_name {J : Nat → Int → Int} {s : Nat} {q : List Int × List Int} {v w : Int} (h : shS J s q) (hw : w = J s 3 + 1) : shS (ax_u (ax_u J (s + 2) (J s 3) v) s 3 w) s (q.1, q.2 ++ [v]) := by
  obtain ⟨⟨h1, h2⟩, h3, h4⟩ := h
  refine ⟨⟨?_, ?_⟩, ?_, ?_⟩
  · rw [axu_j (by decide), axu_a (by omega)]; exact h1
  · rw [axu_row (by omega), axu_row (by omega)]; exact h2
  · rw [axu_s, hw, h3]; simp
  · refine seg_push h4 (fun k a b => ?_) ?_
    · rw [axu_a (by omega), axu_j (by omega)]
    · rw [axu_a (by omega), h3, axu_s]

set_option maxHeartbeats 4000000 in
set_option maxRecDepth 100000 in
theorem c_hasSame {G : ax_G} {T : Nat → Nat} {N : Nat → Int} {I : Nat → Int → Int} {R : Nat → Int → Option Nat} {z : Nat} {m k : Nat} {L M : List (List Int × List Int)} (hm : mtT T N R m) (hk : mtT T N R k) (hL : mcS T N I R m L) (hM : mcS T N I R k M) : axE G YX2_hasSamePieces 2 [vR m, vR k] T N I R z (some (vI (bI (L = M)))) I := by

  refine ax_enter (by decide) (Nat.le_of_ble_eq_true rfl) (ax_cat rfl) (fun f hC => ?_)
  show axX G f 0 0 _ 0 [vR m, vR k, vU] [] T N I R z 0 0
  have l1 := hL.1
  have l2 := hM.1
  have l3 := hL.2.1
  have l4 := hM.2.1
  have loop : L.length = M.length → ∀ (n : Nat) (x : Int), (L.length - x).toNat ≤ n → 0 ≤ x → x ≤ L.length → (∀ j : Nat, j < x → L[j]? = M[j]?) → axX G f 0 0 (fun r1 T1 N1 I1 R1 z1 => r1 = some (vI (bI (L = M))) ∧ T1 = T ∧ N1 = N ∧ I1 = I ∧ R1 = R ∧ z1 = z) 15 [vR m, vR k, vI x] [] T N I R z 0 0 := by
    intro hlen n
    have hyes : (∀ j : Nat, j < L.length → L[j]? = M[j]?) → L = M := fun h => by
      apply List.ext_getElem?
      intro j
      by_cases hj : j < L.length
      · exact h j hj
      · rw [List.getElem?_eq_none (by omega), List.getElem?_eq_none (by omega)]
    induction n with
    | zero =>
      intro x hn h0 h1 hj
      refine x_iload_n (pc := 15) hC dX2_hasSamePieces_15 rfl ?_
      refine x_aload_n (pc := 16) hC dX2_hasSamePieces_16 rfl ?_
      refine x_getI (pc := 17) hC gf_X2_54 dX2_hasSamePieces_17 hm.1 ?_
      refine x_icmp_ge (pc := 20) hC 67 dX2_hasSamePieces_20 (by decide) (by omega) (by omega) (fun b20 => ?_) (fun b20 => ?_)
      · refine x_iconst (pc := 67) hC dX2_hasSamePieces_67 ?_
        refine x_zret (pc := 68) hC rfl dX2_hasSamePieces_68 (Or.inr rfl) ?_
        exact ⟨by rw [bI_t (hyes (fun j h => hj j (by omega)))], rfl, rfl, rfl, rfl, rfl⟩
      · omega
    | succ n ih =>
      intro x hn h0 h1 hj
      by_cases hxl : x < L.length
      · obtain ⟨a, ha⟩ : ∃ a, L[x.toNat]? = some a := ⟨_, List.getElem?_eq_getElem (by omega)⟩
        obtain ⟨b, hb⟩ : ∃ b, M[x.toNat]? = some b := ⟨_, List.getElem?_eq_getElem (by omega)⟩
        have u1 := hL.2.2 _ _ ha
        have u2 := hM.2.2 _ _ hb
        have p1 := mtT_o hm h0 (by omega)
        have p2 := mtT_o hk h0 (by omega)
        refine x_iload_n (pc := 15) hC dX2_hasSamePieces_15 rfl ?_
        refine x_aload_n (pc := 16) hC dX2_hasSamePieces_16 rfl ?_
        refine x_getI (pc := 17) hC gf_X2_54 dX2_hasSamePieces_17 hm.1 ?_
        refine x_icmp_ge (pc := 20) hC 67 dX2_hasSamePieces_20 (by decide) (by omega) (by omega) (fun b20 => ?_) (fun b20 => ?_)
        · omega
        · refine x_aload_n (pc := 23) hC dX2_hasSamePieces_23 rfl ?_
          refine x_getO (pc := 24) hC gf_X2_20 dX2_hasSamePieces_24 hm.1 hm.2.2.2.1.1 ?_
          refine x_iload_n (pc := 27) hC dX2_hasSamePieces_27 rfl ?_
          refine x_aald (pc := 28) hC axEl_14 dX2_hasSamePieces_28 hm.2.2.2.1.2.1 (by omega) (by rw [hm.2.2.2.1.2.2]; omega) p1.1 ?_
          refine x_aload_n (pc := 29) hC dX2_hasSamePieces_29 rfl ?_
          refine x_getO (pc := 30) hC gf_X2_20 dX2_hasSamePieces_30 hk.1 hk.2.2.2.1.1 ?_
          refine x_iload_n (pc := 33) hC dX2_hasSamePieces_33 rfl ?_
          refine x_aald (pc := 34) hC axEl_14 dX2_hasSamePieces_34 hk.2.2.2.1.2.1 (by omega) (by rw [hk.2.2.2.1.2.2]; omega) p2.1 ?_
          refine x_mV (pc := 35) hC cv_X2_62 dX2_hasSamePieces_35 (c_equalsPart u1.1.1 u2.1.1 u1.1.2 u2.1.2) u1.1.1.1 rfl (by decide) rfl rfl (Nat.le_of_ble_eq_true rfl) ?_
          refine x_ifB_eq (pc := 38) hC 59 dX2_hasSamePieces_38 (by decide) (fun b38 => ?_) (fun b38 => ?_)
          · refine x_iconst (pc := 59) hC dX2_hasSamePieces_59 ?_
            refine x_zret (pc := 60) hC rfl dX2_hasSamePieces_60 (Or.inl rfl) ?_
            first
            | exact ⟨by rw [bI_f (fun h => b38 (by rw [h, hb] at ha; cases ha; rfl))], rfl, rfl, rfl, rfl, rfl⟩
            | exact ⟨by rw [bI_f (fun h => b56 (by rw [h, hb] at ha; cases ha; rfl))], rfl, rfl, rfl, rfl, rfl⟩
          · refine x_aload_n (pc := 41) hC dX2_hasSamePieces_41 rfl ?_
            refine x_getO (pc := 42) hC gf_X2_24 dX2_hasSamePieces_42 hm.1 hm.2.2.2.2.1.1 ?_
            refine x_iload_n (pc := 45) hC dX2_hasSamePieces_45 rfl ?_
            refine x_aald (pc := 46) hC axEl_14 dX2_hasSamePieces_46 hm.2.2.2.2.1.2.1 (by omega) (by rw [hm.2.2.2.2.1.2.2]; omega) p1.2 ?_
            refine x_aload_n (pc := 47) hC dX2_hasSamePieces_47 rfl ?_
            refine x_getO (pc := 48) hC gf_X2_24 dX2_hasSamePieces_48 hk.1 hk.2.2.2.2.1.1 ?_
            refine x_iload_n (pc := 51) hC dX2_hasSamePieces_51 rfl ?_
            refine x_aald (pc := 52) hC axEl_14 dX2_hasSamePieces_52 hk.2.2.2.2.1.2.1 (by omega) (by rw [hk.2.2.2.2.1.2.2]; omega) p2.2 ?_
            refine x_mV (pc := 53) hC cv_X2_62 dX2_hasSamePieces_53 (c_equalsPart u1.2.1 u2.2.1 u1.2.2 u2.2.2) u1.2.1.1 rfl (by decide) rfl rfl (Nat.le_of_ble_eq_true rfl) ?_
            refine x_ifB_ne (pc := 56) hC 61 dX2_hasSamePieces_56 (by decide) (fun b56 => ?_) (fun b56 => ?_)
            · refine x_iinc (pc := 61) hC dX2_hasSamePieces_61 rfl ?_
              dsimp only [List.set]
              refine x_goto (pc := 64) hC 15 dX2_hasSamePieces_64 (by decide) ?_
              refine ih (x + 1) (by omega) (by omega) (by omega) (fun j hjx => ?_)
              by_cases hq : j = x.toNat
              · rw [hq, ha, hb]
                congr 1
                exact Prod.ext b38 b56
              · exact hj j (by omega)
            · refine x_iconst (pc := 59) hC dX2_hasSamePieces_59 ?_
              refine x_zret (pc := 60) hC rfl dX2_hasSamePieces_60 (Or.inl rfl) ?_
              first
              | exact ⟨by rw [bI_f (fun h => b38 (by rw [h, hb] at ha; cases ha; rfl))], rfl, rfl, rfl, rfl, rfl⟩
              | exact ⟨by rw [bI_f (fun h => b56 (by rw [h, hb] at ha; cases ha; rfl))], rfl, rfl, rfl, rfl, rfl⟩
      · skip
        refine x_iload_n (pc := 15) hC dX2_hasSamePieces_15 rfl ?_
        refine x_aload_n (pc := 16) hC dX2_hasSamePieces_16 rfl ?_
        refine x_getI (pc := 17) hC gf_X2_54 dX2_hasSamePieces_17 hm.1 ?_
        refine x_icmp_ge (pc := 20) hC 67 dX2_hasSamePieces_20 (by decide) (by omega) (by omega) (fun b20 => ?_) (fun b20 => ?_)
        · refine x_iconst (pc := 67) hC dX2_hasSamePieces_67 ?_
          refine x_zret (pc := 68) hC rfl dX2_hasSamePieces_68 (Or.inr rfl) ?_
          exact ⟨by rw [bI_t (hyes (fun j h => hj j (by omega)))], rfl, rfl, rfl, rfl, rfl⟩
        · omega
  refine x_aload_n (pc := 0) hC dX2_hasSamePieces_0 rfl ?_
  refine x_getI (pc := 1) hC gf_X2_54 dX2_hasSamePieces_1 hm.1 ?_
  refine x_aload_n (pc := 4) hC dX2_hasSamePieces_4 rfl ?_
  refine x_getI (pc := 5) hC gf_X2_54 dX2_hasSamePieces_5 hk.1 ?_
  refine x_icmp_eq (pc := 8) hC 13 dX2_hasSamePieces_8 (by decide) (by omega) (by omega) (fun b8 => ?_) (fun b8 => ?_)
  · refine x_iconst (pc := 13) hC dX2_hasSamePieces_13 ?_
    refine x_istore_n (pc := 14) hC dX2_hasSamePieces_14 (Nat.le_of_ble_eq_true rfl) ?_
    dsimp only [List.set]
    exact loop (by omega) _ 0 (Nat.le_refl _) (by omega) (by omega) (fun j h => by omega)
  · refine x_iconst (pc := 11) hC dX2_hasSamePieces_11 ?_
    refine x_zret (pc := 12) hC rfl dX2_hasSamePieces_12 (Or.inl rfl) ?_
    exact ⟨by rw [bI_f (fun h => by rw [h] at l1; omega)], rfl, rfl, rfl, rfl, rfl⟩

set_option maxHeartbeats 4000000 in
set_option maxRecDepth 100000 in
theorem c_clear {G : ax_G} {T : Nat → Nat} {N : Nat → Int} {I : Nat → Int → Int} {R : Nat → Int → Option Nat} {z : Nat} {s : Nat} (hs : shT T N R s) : axEx G YX8_clear 0 [vR s] T N I R z (fun r1 I1 => r1 = none ∧ shS I1 s ([], []) ∧ ∀ q, q ≠ s → I1 q = I q) := by

  refine ax_enter (by decide) (Nat.le_of_ble_eq_true rfl) (ax_cat rfl) (fun f hC => ?_)
  show axX G f 0 0 _ 0 [vR s] [] T N I R z 0 0
  refine x_aload_n (pc := 0) hC dX8_clear_0 rfl ?_
  refine x_iconst (pc := 1) hC dX8_clear_1 ?_
  refine x_putI (pc := 2) hC pf_X8_18 dX8_clear_2 hs.1 (by decide) ?_
  refine x_aload_n (pc := 5) hC dX8_clear_5 rfl ?_
  refine x_iconst (pc := 6) hC dX8_clear_6 ?_
  refine x_putI (pc := 7) hC pf_X8_22 dX8_clear_7 hs.1 (by decide) ?_
  refine x_vret (pc := 10) hC rfl dX8_clear_10 ?_
  exact ⟨⟨rfl, ⟨⟨by rw [axu_j (by decide), axu_s]; rfl, seg_nil (by simp)⟩, by rw [axu_s]; rfl, seg_nil (by simp)⟩, fun q h => by rw [axu_row h, axu_row h]⟩, rfl, rfl, rfl, rfl⟩

set_option maxHeartbeats 4000000 in
set_option maxRecDepth 100000 in
theorem c_nameOf {G : ax_G} {T : Nat → Nat} {N : Nat → Int} {I : Nat → Int → Int} {R : Nat → Int → Option Nat} {z : Nat} {s : Nat} {v : Int} {q : List Int × List Int} (hs : shT T N R s) (hq : shS I s q) (hl : q.2.length ≤ 48) (hn : isLn q.2) (hv : ax_r v) : axE G YX8_nameOf 0 [vR s, vI v] T N I R z (some (vI (if v ∈ q.2 then (nix q.2 v : Int) else -9))) I := by

  refine ax_enter (by decide) (Nat.le_of_ble_eq_true rfl) (ax_cat rfl) (fun f hC => ?_)
  show axX G f 0 0 _ 0 [vR s, vI v, vU] [] T N I R z 0 0
  have h3 := hq.2.1
  have loop : ∀ (n : Nat) (x : Int), (q.2.length - x).toNat ≤ n → 0 ≤ x → x ≤ q.2.length → (∀ j : Nat, j < x → q.2[j]? ≠ some v) → axX G f 0 0 (fun r1 T1 N1 I1 R1 z1 => r1 = some (vI (if v ∈ q.2 then (nix q.2 v : Int) else -9)) ∧ T1 = T ∧ N1 = N ∧ I1 = I ∧ R1 = R ∧ z1 = z) 2 [vR s, vI v, vI x] [] T N I R z 0 0 := by
    intro n
    have hno : (∀ j : Nat, j < q.2.length → q.2[j]? ≠ some v) → v ∉ q.2 := fun h hm => by
      obtain ⟨j, hj⟩ := List.mem_iff_getElem?.mp hm
      rcases Nat.lt_or_ge j q.2.length with h9 | h9
      · exact h j h9 hj
      · rw [List.getElem?_eq_none h9] at hj; simp at hj
    induction n with
    | zero =>
      intro x hn h0 h1 hj
      refine x_iload_n (pc := 2) hC dX8_nameOf_2 rfl ?_
      refine x_aload_n (pc := 3) hC dX8_nameOf_3 rfl ?_
      refine x_getI (pc := 4) hC gf_X8_22 dX8_nameOf_4 hs.1 ?_
      refine x_icmp_ge (pc := 7) hC 28 dX8_nameOf_7 (by decide) (by omega) (by omega) (fun b7 => ?_) (fun b7 => ?_)
      · refine x_bipush (pc := 28) hC dX8_nameOf_28 (by decide) ?_
        refine x_iret (pc := 30) hC rfl dX8_nameOf_30 ?_
        exact ⟨by rw [if_neg (hno (fun j h => hj j (by omega)))], rfl, rfl, rfl, rfl, rfl⟩
      · omega
    | succ n ih =>
      intro x hn2 h0 h1 hj
      have hx : x < q.2.length → q.2[x.toNat]? = some (I (s + 2) x) := fun h => seg_gt hq.2.2 h0 h
      have hr : x < q.2.length → 0 ≤ I (s + 2) x ∧ I (s + 2) x < 100 := fun h => hn _ (List.mem_of_getElem? (hx h))
      refine x_iload_n (pc := 2) hC dX8_nameOf_2 rfl ?_
      refine x_aload_n (pc := 3) hC dX8_nameOf_3 rfl ?_
      refine x_getI (pc := 4) hC gf_X8_22 dX8_nameOf_4 hs.1 ?_
      refine x_icmp_ge (pc := 7) hC 28 dX8_nameOf_7 (by decide) (by omega) (by omega) (fun b7 => ?_) (fun b7 => ?_)
      · refine x_bipush (pc := 28) hC dX8_nameOf_28 (by decide) ?_
        refine x_iret (pc := 30) hC rfl dX8_nameOf_30 ?_
        exact ⟨by rw [if_neg (hno (fun j h => hj j (by omega)))], rfl, rfl, rfl, rfl, rfl⟩
      · refine x_aload_n (pc := 10) hC dX8_nameOf_10 rfl ?_
        refine x_getO (pc := 11) hC gf_X8_15 dX8_nameOf_11 hs.1 hs.2.2.1 ?_
        refine x_iload_n (pc := 14) hC dX8_nameOf_14 rfl ?_
        refine x_iald (pc := 15) hC dX8_nameOf_15 hs.2.2.2.1 (by omega) (by rw [hs.2.2.2.2]; omega) ?_
        refine x_iload_n (pc := 16) hC dX8_nameOf_16 rfl ?_
        have r1 := hr (by omega)
        have e1 := hx (by omega)
        refine x_icmp_ne (pc := 17) hC 22 dX8_nameOf_17 (by decide) (by omega) (by omega) (fun b17 => ?_) (fun b17 => ?_)
        · refine x_iinc (pc := 22) hC dX8_nameOf_22 rfl ?_
          dsimp only [List.set]
          refine x_goto (pc := 25) hC 2 dX8_nameOf_25 (by decide) ?_
          refine ih (x + 1) (by omega) (by omega) (by omega) (fun j hjx => ?_)
          by_cases hq : j = x.toNat
          · rw [hq, e1]; intro e; exact absurd (Option.some.inj e) (by assumption)
          · exact hj j (by omega)
        · refine x_iload_n (pc := 20) hC dX8_nameOf_20 rfl ?_
          refine x_iret (pc := 21) hC rfl dX8_nameOf_21 ?_
          rw [b17] at e1
          refine ⟨?_, rfl, rfl, rfl, rfl, rfl⟩
          rw [if_pos (List.mem_of_getElem? e1), nix_at x.toNat q.2 v (fun y hy => hj y (by omega)) e1, show ((x.toNat : Nat) : Int) = x by omega]
  refine x_iconst (pc := 0) hC dX8_nameOf_0 ?_
  refine x_istore_n (pc := 1) hC dX8_nameOf_1 (Nat.le_of_ble_eq_true rfl) ?_
  dsimp only [List.set]
  exact loop _ 0 (Nat.le_refl _) (by omega) (by omega) (fun j h => by omega)

set_option maxHeartbeats 4000000 in
set_option maxRecDepth 100000 in
theorem c_numberAt {G : ax_G} {T : Nat → Nat} {N : Nat → Int} {I : Nat → Int → Int} {R : Nat → Int → Option Nat} {z : Nat} {s : Nat} {i : Int} {q : List Int × List Int} (hs : shT T N R s) (hq : shS I s q) (hl : q.1.length ≤ 51) (h0 : 0 ≤ i) (hi : ax_r i) : axE G YX8_numberAt 0 [vR s, vI i] T N I R z (some (vI (atO q.1 i))) I := by

  refine ax_enter (by decide) (Nat.le_of_ble_eq_true rfl) (ax_cat rfl) (fun f hC => ?_)
  show axX G f 0 0 _ 0 [vR s, vI i] [] T N I R z 0 0
  have h1 := hq.1.1
  have ha := atO_seg (f := I (s + 1)) (i := 0) (j := q.1.length) (k := i) (by omega) h0
  rw [hq.1.2, Int.zero_add, Int.sub_zero] at ha
  refine x_iload_n (pc := 0) hC dX8_numberAt_0 rfl ?_
  refine x_if_lt (pc := 1) hC 21 dX8_numberAt_1 (by decide) (by omega) (fun b1 => ?_) (fun b1 => ?_)
  · refine x_bipush (pc := 21) hC dX8_numberAt_21 (by decide) ?_
    refine x_iret (pc := 23) hC rfl dX8_numberAt_23 ?_
    refine ⟨?_, rfl, rfl, rfl, rfl, rfl⟩
    rw [ha]
    first
    | (rw [if_pos (by omega)]; done)
    | (rw [if_neg (by omega)]; done)
    | (exfalso; omega)
  · refine x_iload_n (pc := 4) hC dX8_numberAt_4 rfl ?_
    refine x_aload_n (pc := 5) hC dX8_numberAt_5 rfl ?_
    refine x_getI (pc := 6) hC gf_X8_18 dX8_numberAt_6 hs.1 ?_
    refine x_icmp_ge (pc := 9) hC 21 dX8_numberAt_9 (by decide) (by omega) (by omega) (fun b9 => ?_) (fun b9 => ?_)
    · refine x_bipush (pc := 21) hC dX8_numberAt_21 (by decide) ?_
      refine x_iret (pc := 23) hC rfl dX8_numberAt_23 ?_
      refine ⟨?_, rfl, rfl, rfl, rfl, rfl⟩
      rw [ha]
      first
      | (rw [if_pos (by omega)]; done)
      | (rw [if_neg (by omega)]; done)
      | (exfalso; omega)
    · refine x_aload_n (pc := 12) hC dX8_numberAt_12 rfl ?_
      refine x_getO (pc := 13) hC gf_X8_9 dX8_numberAt_13 hs.1 hs.2.1.1 ?_
      refine x_iload_n (pc := 16) hC dX8_numberAt_16 rfl ?_
      refine x_iald (pc := 17) hC dX8_numberAt_17 hs.2.1.2.1 (by omega) (by rw [hs.2.1.2.2]; omega) ?_
      refine x_goto (pc := 18) hC 23 dX8_numberAt_18 (by decide) ?_
      refine x_iret (pc := 23) hC rfl dX8_numberAt_23 ?_
      refine ⟨?_, rfl, rfl, rfl, rfl, rfl⟩
      rw [ha]
      first
      | (rw [if_pos (by omega)]; done)
      | (rw [if_neg (by omega)]; done)
      | (exfalso; omega)

set_option maxHeartbeats 4000000 in
set_option maxRecDepth 100000 in
theorem c_equalsNumbers {G : ax_G} {T : Nat → Nat} {N : Nat → Int} {I : Nat → Int → Int} {R : Nat → Int → Option Nat} {z : Nat} {s r : Nat} {q : List Int × List Int} {l : List Int} (hs : shT T N R s) (hq : shS I s q) (hl : q.1.length ≤ 51) (hqr : ∀ v ∈ q.1, 0 ≤ v ∧ v < 1000) (hr : T r = 13) (hrn : N r = l.length) (hrl : seg (I r) 0 l.length = l) (hll : l.length ≤ 100) (hlr : ∀ v ∈ l, 0 ≤ v ∧ v < 1000) : axE G YX8_equalsNumbers 0 [vR s, vR r] T N I R z (some (vI (bI (q.1 = l)))) I := by

  refine ax_enter (by decide) (Nat.le_of_ble_eq_true rfl) (ax_cat rfl) (fun f hC => ?_)
  show axX G f 0 0 _ 0 [vR s, vR r, vU] [] T N I R z 0 0
  have h1 := hq.1.1
  have loop : q.1.length = l.length → ∀ (n : Nat) (x : Int), (l.length - x).toNat ≤ n → 0 ≤ x → x ≤ l.length → (∀ j : Nat, j < x → q.1[j]? = l[j]?) → axX G f 0 0 (fun r1 T1 N1 I1 R1 z1 => r1 = some (vI (bI (q.1 = l))) ∧ T1 = T ∧ N1 = N ∧ I1 = I ∧ R1 = R ∧ z1 = z) 13 [vR s, vR r, vI x] [] T N I R z 0 0 := by
    intro hlen n
    have hyes : (∀ j : Nat, j < l.length → q.1[j]? = l[j]?) → q.1 = l := fun h => by
      apply List.ext_getElem?
      intro j
      by_cases hj : j < l.length
      · exact h j hj
      · rw [List.getElem?_eq_none (by omega), List.getElem?_eq_none (by omega)]
    induction n with
    | zero =>
      intro x hn h0 h1' hj
      refine x_iload_n (pc := 13) hC dX8_equalsNumbers_13 rfl ?_
      refine x_aload_n (pc := 14) hC dX8_equalsNumbers_14 rfl ?_
      refine x_getI (pc := 15) hC gf_X8_18 dX8_equalsNumbers_15 hs.1 ?_
      refine x_icmp_ge (pc := 18) hC 41 dX8_equalsNumbers_18 (by decide) (by omega) (by omega) (fun b18 => ?_) (fun b18 => ?_)
      · refine x_iconst (pc := 41) hC dX8_equalsNumbers_41 ?_
        refine x_zret (pc := 42) hC rfl dX8_equalsNumbers_42 (Or.inr rfl) ?_
        exact ⟨by rw [bI_t (hyes (fun j h => hj j (by omega)))], rfl, rfl, rfl, rfl, rfl⟩
      · omega
    | succ n ih =>
      intro x hn h0 h1' hj
      have hx1 : x < l.length → q.1[x.toNat]? = some (I (s + 1) x) := fun h => seg_gt hq.1.2 h0 (by omega)
      have hx2 : x < l.length → l[x.toNat]? = some (I r x) := fun h => seg_gt hrl h0 h
      refine x_iload_n (pc := 13) hC dX8_equalsNumbers_13 rfl ?_
      refine x_aload_n (pc := 14) hC dX8_equalsNumbers_14 rfl ?_
      refine x_getI (pc := 15) hC gf_X8_18 dX8_equalsNumbers_15 hs.1 ?_
      refine x_icmp_ge (pc := 18) hC 41 dX8_equalsNumbers_18 (by decide) (by omega) (by omega) (fun b18 => ?_) (fun b18 => ?_)
      · refine x_iconst (pc := 41) hC dX8_equalsNumbers_41 ?_
        refine x_zret (pc := 42) hC rfl dX8_equalsNumbers_42 (Or.inr rfl) ?_
        exact ⟨by rw [bI_t (hyes (fun j h => hj j (by omega)))], rfl, rfl, rfl, rfl, rfl⟩
      · refine x_aload_n (pc := 21) hC dX8_equalsNumbers_21 rfl ?_
        refine x_getO (pc := 22) hC gf_X8_9 dX8_equalsNumbers_22 hs.1 hs.2.1.1 ?_
        refine x_iload_n (pc := 25) hC dX8_equalsNumbers_25 rfl ?_
        refine x_iald (pc := 26) hC dX8_equalsNumbers_26 hs.2.1.2.1 (by omega) (by rw [hs.2.1.2.2]; omega) ?_
        refine x_aload_n (pc := 27) hC dX8_equalsNumbers_27 rfl ?_
        refine x_iload_n (pc := 28) hC dX8_equalsNumbers_28 rfl ?_
        refine x_iald (pc := 29) hC dX8_equalsNumbers_29 hr (by omega) (by rw [hrn]; omega) ?_
        have e1 := hx1 (by omega)
        have e2 := hx2 (by omega)
        have r1 := hqr _ (List.mem_of_getElem? e1)
        have r2 := hlr _ (List.mem_of_getElem? e2)
        refine x_icmp_eq (pc := 30) hC 35 dX8_equalsNumbers_30 (by decide) (by omega) (by omega) (fun b30 => ?_) (fun b30 => ?_)
        · refine x_iinc (pc := 35) hC dX8_equalsNumbers_35 rfl ?_
          dsimp only [List.set]
          refine x_goto (pc := 38) hC 13 dX8_equalsNumbers_38 (by decide) ?_
          refine ih (x + 1) (by omega) (by omega) (by omega) (fun j hjx => ?_)
          by_cases hq9 : j = x.toNat
          · rw [hq9, e1, e2]; congr 1
          · exact hj j (by omega)
        · refine x_iconst (pc := 33) hC dX8_equalsNumbers_33 ?_
          refine x_zret (pc := 34) hC rfl dX8_equalsNumbers_34 (Or.inl rfl) ?_
          exact ⟨by rw [bI_f (fun h => b30 (by rw [h, e2] at e1; exact (Option.some.inj e1).symm))], rfl, rfl, rfl, rfl, rfl⟩
  refine x_aload_n (pc := 0) hC dX8_equalsNumbers_0 rfl ?_
  refine x_getI (pc := 1) hC gf_X8_18 dX8_equalsNumbers_1 hs.1 ?_
  refine x_aload_n (pc := 4) hC dX8_equalsNumbers_4 rfl ?_
  refine x_alen (pc := 5) hC dX8_equalsNumbers_5 (by rw [hr]; decide) (by rw [hr]; decide) ?_
  rw [hrn]
  refine x_icmp_eq (pc := 6) hC 11 dX8_equalsNumbers_6 (by decide) (by omega) (by omega) (fun b6 => ?_) (fun b6 => ?_)
  · refine x_iconst (pc := 11) hC dX8_equalsNumbers_11 ?_
    refine x_istore_n (pc := 12) hC dX8_equalsNumbers_12 (Nat.le_of_ble_eq_true rfl) ?_
    dsimp only [List.set]
    exact loop (by omega) _ 0 (Nat.le_refl _) (by omega) (by omega) (fun j h => by omega)
  · refine x_iconst (pc := 9) hC dX8_equalsNumbers_9 ?_
    refine x_zret (pc := 10) hC rfl dX8_equalsNumbers_10 (Or.inl rfl) ?_
    exact ⟨by rw [bI_f (fun h => by rw [h] at h1; omega)], rfl, rfl, rfl, rfl, rfl⟩

set_option maxHeartbeats 4000000 in
set_option maxRecDepth 100000 in
theorem c_isBelow {G : ax_G} {T : Nat → Nat} {N : Nat → Int} {I : Nat → Int → Int} {R : Nat → Int → Option Nat} {z : Nat} {s t : Nat} {a b : List Int × List Int} (hs : shT T N R s) (ht : shT T N R t) (ha : shS I s a) (hb : shS I t b) (hl : a.1.length ≤ 51) (hlen : a.1.length = b.1.length) (har : ∀ v ∈ a.1, 0 ≤ v ∧ v < 1000) (hbr : ∀ v ∈ b.1, 0 ≤ v ∧ v < 1000) : axE G YX8_isBelow 0 [vR s, vR t] T N I R z (some (vI (bI (lxF b.1 a.1 = 1)))) I := by

  refine ax_enter (by decide) (Nat.le_of_ble_eq_true rfl) (ax_cat rfl) (fun f hC => ?_)
  show axX G f 0 0 _ 0 [vR s, vR t, vU] [] T N I R z 0 0
  have h1 := ha.1.1
  have loop : ∀ (n : Nat) (x : Int), (a.1.length - x).toNat ≤ n → 0 ≤ x → x ≤ a.1.length → lxF (b.1.drop x.toNat) (a.1.drop x.toNat) = lxF b.1 a.1 → axX G f 0 0 (fun r1 T1 N1 I1 R1 z1 => r1 = some (vI (bI (lxF b.1 a.1 = 1))) ∧ T1 = T ∧ N1 = N ∧ I1 = I ∧ R1 = R ∧ z1 = z) 2 [vR s, vR t, vI x] [] T N I R z 0 0 := by
    intro n
    induction n with
    | zero =>
      intro x hn h0 h1' hj
      refine x_iload_n (pc := 2) hC dX8_isBelow_2 rfl ?_
      refine x_aload_n (pc := 3) hC dX8_isBelow_3 rfl ?_
      refine x_getI (pc := 4) hC gf_X8_18 dX8_isBelow_4 hs.1 ?_
      refine x_icmp_ge (pc := 7) hC 52 dX8_isBelow_7 (by decide) (by omega) (by omega) (fun b7 => ?_) (fun b7 => ?_)
      · refine x_iconst (pc := 52) hC dX8_isBelow_52 ?_
        refine x_zret (pc := 53) hC rfl dX8_isBelow_53 (Or.inl rfl) ?_
        refine ⟨?_, rfl, rfl, rfl, rfl, rfl⟩
        rw [List.drop_eq_nil_of_le (by omega), List.drop_eq_nil_of_le (by omega)] at hj
        rw [bI_f (by rw [← hj]; decide)]
      · omega
    | succ n ih =>
      intro x hn h0 h1' hj
      have hx1 : x < a.1.length → a.1[x.toNat]? = some (I (s + 1) x) := fun h => seg_gt ha.1.2 h0 (by omega)
      have hx2 : x < a.1.length → b.1[x.toNat]? = some (I (t + 1) x) := fun h => seg_gt hb.1.2 h0 (by omega)
      refine x_iload_n (pc := 2) hC dX8_isBelow_2 rfl ?_
      refine x_aload_n (pc := 3) hC dX8_isBelow_3 rfl ?_
      refine x_getI (pc := 4) hC gf_X8_18 dX8_isBelow_4 hs.1 ?_
      refine x_icmp_ge (pc := 7) hC 52 dX8_isBelow_7 (by decide) (by omega) (by omega) (fun b7 => ?_) (fun b7 => ?_)
      · refine x_iconst (pc := 52) hC dX8_isBelow_52 ?_
        refine x_zret (pc := 53) hC rfl dX8_isBelow_53 (Or.inl rfl) ?_
        refine ⟨?_, rfl, rfl, rfl, rfl, rfl⟩
        rw [List.drop_eq_nil_of_le (by omega), List.drop_eq_nil_of_le (by omega)] at hj
        rw [bI_f (by rw [← hj]; decide)]
      · refine x_aload_n (pc := 10) hC dX8_isBelow_10 rfl ?_
        refine x_getO (pc := 11) hC gf_X8_9 dX8_isBelow_11 hs.1 hs.2.1.1 ?_
        refine x_iload_n (pc := 14) hC dX8_isBelow_14 rfl ?_
        refine x_iald (pc := 15) hC dX8_isBelow_15 hs.2.1.2.1 (by omega) (by rw [hs.2.1.2.2]; omega) ?_
        refine x_aload_n (pc := 16) hC dX8_isBelow_16 rfl ?_
        refine x_getO (pc := 17) hC gf_X8_9 dX8_isBelow_17 ht.1 ht.2.1.1 ?_
        refine x_iload_n (pc := 20) hC dX8_isBelow_20 rfl ?_
        refine x_iald (pc := 21) hC dX8_isBelow_21 ht.2.1.2.1 (by omega) (by rw [ht.2.1.2.2]; omega) ?_
        have e1 := hx1 (by omega)
        have e2 := hx2 (by omega)
        have r1 := har _ (List.mem_of_getElem? e1)
        have r2 := hbr _ (List.mem_of_getElem? e2)
        have d1 := List.drop_eq_getElem_cons (l := a.1) (i := x.toNat) (by omega)
        have d2 := List.drop_eq_getElem_cons (l := b.1) (i := x.toNat) (by omega)
        rw [List.getElem?_eq_getElem (by omega)] at e1 e2
        rw [d1, d2, Option.some.inj e1, Option.some.inj e2] at hj
        simp only [lxF] at hj
        refine x_icmp_eq (pc := 22) hC 46 dX8_isBelow_22 (by decide) (by omega) (by omega) (fun b22 => ?_) (fun b22 => ?_)
        · refine x_iinc (pc := 46) hC dX8_isBelow_46 rfl ?_
          dsimp only [List.set]
          refine x_goto (pc := 49) hC 2 dX8_isBelow_49 (by decide) ?_
          refine ih (x + 1) (by omega) (by omega) (by omega) ?_
          rw [if_pos (by omega)] at hj
          rw [show (x + 1).toNat = x.toNat + 1 by omega]
          exact hj
        · refine x_aload_n (pc := 25) hC dX8_isBelow_25 rfl ?_
          refine x_getO (pc := 26) hC gf_X8_9 dX8_isBelow_26 hs.1 hs.2.1.1 ?_
          refine x_iload_n (pc := 29) hC dX8_isBelow_29 rfl ?_
          refine x_iald (pc := 30) hC dX8_isBelow_30 hs.2.1.2.1 (by omega) (by rw [hs.2.1.2.2]; omega) ?_
          refine x_aload_n (pc := 31) hC dX8_isBelow_31 rfl ?_
          refine x_getO (pc := 32) hC gf_X8_9 dX8_isBelow_32 ht.1 ht.2.1.1 ?_
          refine x_iload_n (pc := 35) hC dX8_isBelow_35 rfl ?_
          refine x_iald (pc := 36) hC dX8_isBelow_36 ht.2.1.2.1 (by omega) (by rw [ht.2.1.2.2]; omega) ?_
          refine x_icmp_ge (pc := 37) hC 44 dX8_isBelow_37 (by decide) (by omega) (by omega) (fun b37 => ?_) (fun b37 => ?_)
          · refine x_iconst (pc := 44) hC dX8_isBelow_44 ?_
            refine x_zret (pc := 45) hC rfl dX8_isBelow_45 (Or.inl rfl) ?_
            refine ⟨?_, rfl, rfl, rfl, rfl, rfl⟩
            rw [if_neg (by omega)] at hj
            first
            | (rw [if_neg (by omega)] at hj; rw [bI_t hj.symm]; done)
            | (rw [if_pos (by omega)] at hj; rw [bI_f (by rw [← hj]; decide)]; done)
          · refine x_iconst (pc := 40) hC dX8_isBelow_40 ?_
            refine x_goto (pc := 41) hC 45 dX8_isBelow_41 (by decide) ?_
            refine x_zret (pc := 45) hC rfl dX8_isBelow_45 (Or.inr rfl) ?_
            refine ⟨?_, rfl, rfl, rfl, rfl, rfl⟩
            rw [if_neg (by omega)] at hj
            first
            | (rw [if_neg (by omega)] at hj; rw [bI_t hj.symm]; done)
            | (rw [if_pos (by omega)] at hj; rw [bI_f (by rw [← hj]; decide)]; done)
  refine x_iconst (pc := 0) hC dX8_isBelow_0 ?_
  refine x_istore_n (pc := 1) hC dX8_isBelow_1 (Nat.le_of_ble_eq_true rfl) ?_
  dsimp only [List.set]
  exact loop _ 0 (Nat.le_refl _) (by omega) (by omega) rfl

