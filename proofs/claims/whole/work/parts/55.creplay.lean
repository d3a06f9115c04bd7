/-! THE CLASS: a replay's own rows -/
theorem axTakes_5 {n : Nat} (h : pT n) : axTakes RX5 n := by
  rcases h with rfl | rfl | rfl
  · exact ⟨_, _, _, _, ck_X0, Or.inr n_FP⟩
  · exact ⟨_, _, _, _, ck_X1, Or.inr n_KP⟩
  · exact ⟨_, _, _, _, ck_X5, Or.inl rfl⟩
def rpT (T : Nat → Nat) (N : Nat → Int) (R : Nat → Int → Option Nat) (r w : Nat) : Prop := T r = 6 ∧ (R r 4 = some w ∧ T w = 15 ∧ N w = 24) ∧ (R r 6 = some (w + 1) ∧ T (w + 1) = 15 ∧ N (w + 1) = 24) ∧ (R r 9 = some (w + 2) ∧ T (w + 2) = 13 ∧ N (w + 2) = 4) ∧ (R r 11 = some (w + 3) ∧ T (w + 3) = 13 ∧ N (w + 3) = 4) ∧ R r 12 = some (w + 4) ∧ T (w + 4) = 16 ∧ N (w + 4) = 8
theorem rpT_fr {T : Nat → Nat} {N : Nat → Int} {R S : Nat → Int → Option Nat} {r w : Nat} (h : rpT T N R r w) (hS : ∀ k, k ≠ 2 → k ≠ 3 → S r k = R r k) : rpT T N S r w := by
  unfold rpT at *
  rw [hS 4 (by decide) (by decide), hS 6 (by decide) (by decide), hS 9 (by decide) (by decide), hS 11 (by decide) (by decide), hS 12 (by decide) (by decide)]
  exact h
theorem cmS_fr {T : Nat → Nat} {N : Nat → Int} {I : Nat → Int → Int} {R S : Nat → Int → Option Nat} {A w : Int → Nat} {m : Int} {p : Int → Int} (h : cmS T N I R A w m p) (hS : ∀ q, pT (T q) → S q = R q) : cmS T N I S A w m p :=
  ⟨h.1, fun c a b => by
    obtain ⟨h1, h2, h3, h4, h5⟩ := h.2 c a b
    rw [hS _ h1]
    exact ⟨h1, h2, h3, h4, h5⟩⟩
theorem cmS_fi {T : Nat → Nat} {N : Nat → Int} {I J : Nat → Int → Int} {R : Nat → Int → Option Nat} {A w : Int → Nat} {m : Int} {p : Int → Int} (h : cmS T N I R A w m p) (hJ : ∀ q, pT (T q) → J q = I q) (hw : ∀ c, 0 ≤ c → c < m → J (w c) = I (w c)) : cmS T N J R A w m p :=
  ⟨h.1, fun c a b => by
    obtain ⟨h1, h2, h3, h4, h5⟩ := h.2 c a b
    refine ⟨h1, by rw [hJ _ h1]; exact h2, h3, h4, ?_⟩
    unfold rwS at *
    rw [hw c a b]
    exact h5⟩
def r7 (T : Nat → Nat) (R : Nat → Int → Option Nat) (q : Nat) : Prop := ∀ (j : Int) (v : Nat), 0 ≤ j → j < 8 → R q j = some v → T v = 7

set_option maxHeartbeats 4000000 in
set_option maxRecDepth 100000 in
theorem c_listNot {G : ax_G} {T : Nat → Nat} {N : Nat → Int} {I : Nat → Int → Int} {R : Nat → Int → Option Nat} {z : Nat} {A w : Int → Nat} {m : Int} {p : Int → Int} (h : cmS T N I R A w m p) {c d : Int} {l : Nat} (hc : 0 ≤ c ∧ c < m) (hd : 0 ≤ d ∧ d < m) (hl : T l = 15) (hN : N l = 24) (h24 : (path p c).length ≤ 24) : axR G YX6_listNotOnPath 2 [vR (A c), vR (A d), vR l] T N I R z (fun r1 I1 R1 => r1 = some (vI (((path p c).filter (fun y => decide (y ∉ path p d))).length : Int)) ∧ I1 = I ∧ (∀ q, q ≠ l → R1 q = R q) ∧ ∀ (k : Nat) (v : Int), ((path p c).filter (fun y => decide (y ∉ path p d)))[k]? = some v → R1 l k = some (A v)) := by

  refine ax_enter (by decide) (Nat.le_of_ble_eq_true rfl) (ax_cat rfl) (fun f hC => ?_)
  show axX G f 0 0 _ 0 [vR (A c), vR (A d), vR l, vU, vU] [] T N I R z 0 0
  have k1 := (h.2 c hc.1 hc.2).1
  have k2 := (h.2 d hd.1 hd.2).1
  have hlA : ∀ q, pT (T q) → q ≠ l := fun q h9 h8 => by rw [h8, hl] at h9; rcases h9 with h | h | h <;> omega
  have hfl : ((path p c).filter (fun y => decide (y ∉ path p d))).length ≤ (path p c).length := List.length_filter_le _ _
  have add : ∀ (S : Nat → Int → Option Nat) (D : List Int) (v : Int), (∀ (k : Nat) (v : Int), D[k]? = some v → S l k = some (A v)) → ∀ (k : Nat) (v' : Int), (D ++ [v])[k]? = some v' → ax_u S l (D.length : Int) (some (A v)) l k = some (A v') := by
    intro S D v hD k v' hk
    rcases Nat.lt_or_ge k D.length with h9 | h9
    · rw [List.getElem?_append_left h9] at hk
      rw [axu_j (by omega)]
      exact hD k v' hk
    · rw [List.getElem?_append_right h9] at hk
      have hk1 := (List.getElem?_eq_some_iff.mp hk).1
      simp at hk1
      have hke : k = D.length := by omega
      rw [hke, Nat.sub_self] at hk
      cases hk
      rw [hke, axu_s]
  have loop : ∀ (n : Nat) (y : Int) (D : List Int) (S : Nat → Int → Option Nat), y.toNat ≤ n → 0 ≤ y → y < m → (∀ q, q ≠ l → S q = R q) → (∀ (k : Nat) (v : Int), D[k]? = some v → S l k = some (A v)) → ((path p c).filter (fun y => decide (y ∉ path p d))) = D ++ (path p y).filter (fun y => decide (y ∉ path p d)) → axX G f 0 0 (fun r1 T1 N1 I1 R1 z1 => (r1 = some (vI (((path p c).filter (fun y => decide (y ∉ path p d))).length : Int)) ∧ I1 = I ∧ (∀ q, q ≠ l → R1 q = R q) ∧ ∀ (k : Nat) (v : Int), ((path p c).filter (fun y => decide (y ∉ path p d)))[k]? = some v → R1 l k = some (A v)) ∧ T1 = T ∧ N1 = N ∧ z1 = z) 5 [vR (A c), vR (A d), vR l, vI (D.length : Int), vR (A y)] [] T N I S z 0 0 := by
    intro n
    have go0 : ∀ (y : Int) (D : List Int) (S : Nat → Int → Option Nat), y = 0 → 0 ≤ y → y < m → (∀ q, q ≠ l → S q = R q) → (∀ (k : Nat) (v : Int), D[k]? = some v → S l k = some (A v)) → ((path p c).filter (fun y => decide (y ∉ path p d))) = D ++ (path p y).filter (fun y => decide (y ∉ path p d)) → axX G f 0 0 (fun r1 T1 N1 I1 R1 z1 => (r1 = some (vI (((path p c).filter (fun y => decide (y ∉ path p d))).length : Int)) ∧ I1 = I ∧ (∀ q, q ≠ l → R1 q = R q) ∧ ∀ (k : Nat) (v : Int), ((path p c).filter (fun y => decide (y ∉ path p d)))[k]? = some v → R1 l k = some (A v)) ∧ T1 = T ∧ N1 = N ∧ z1 = z) 5 [vR (A c), vR (A d), vR l, vI (D.length : Int), vR (A y)] [] T N I S z 0 0 := by
      intro y D S hy0 h0 hy s1 s2 he
      have hS : cmS T N I S A w m p := cmS_fr h (fun q hq => s1 q (hlA q hq))
      obtain ⟨h1, h2, h3, h4, h5⟩ := hS.2 y h0 hy
      rw [if_pos hy0] at h3
      have hpy : path p y = [y] := by rw [hy0]; exact path_0 h.1
      rw [hpy] at he
      have hDl := congrArg List.length he
      rw [List.length_append] at hDl
      refine x_aload (pc := 5) hC dX6_listNotOnPath_5 rfl ?_
      refine x_ifnull (pc := 7) hC 43 dX6_listNotOnPath_7 (by decide) (fun h => by cases h) (fun _ _ => ?_)
      refine x_iload_n (pc := 10) hC dX6_listNotOnPath_10 rfl ?_
      refine x_aload_n (pc := 11) hC dX6_listNotOnPath_11 rfl ?_
      refine x_alen (pc := 12) hC dX6_listNotOnPath_12 (by rw [hl]; decide) (by rw [hl]; decide) ?_
      rw [hN]
      refine x_icmp_ge (pc := 13) hC 43 dX6_listNotOnPath_13 (by decide) (by omega) (by omega) (fun b13 => ?_) (fun b13 => ?_)
      · have hre := List.eq_nil_of_length_eq_zero (show ((path p y).filter (fun y => decide (y ∉ path p d))).length = 0 by rw [hpy]; omega)
        rw [hpy] at hre
        rw [hre, List.append_nil] at he
        refine x_iload_n (pc := 43) hC dX6_listNotOnPath_43 rfl ?_
        refine x_iret (pc := 44) hC rfl dX6_listNotOnPath_44 ?_
        rw [he]
        exact ⟨⟨rfl, rfl, s1, s2⟩, rfl, rfl, rfl⟩
      · refine x_aload (pc := 16) hC dX6_listNotOnPath_16 rfl ?_
        refine x_aload_n (pc := 18) hC dX6_listNotOnPath_18 rfl ?_
        refine x_mU (pc := 19) hC (cq_X6_63 h1) dX6_listNotOnPath_19 (c_isOnPathOf hS ⟨h0, hy⟩ hd) rfl rfl (by decide) rfl rfl (Nat.le_of_ble_eq_true rfl) ?_
        dsimp only [Option.toList, List.cons_append, List.nil_append]
        refine x_ifB_ne (pc := 22) hC 33 dX6_listNotOnPath_22 (by decide) (fun b22 => ?_) (fun b22 => ?_)
        · rw [List.filter_cons_of_neg (by simpa using b22), List.filter_nil, List.append_nil] at he
          refine x_aload (pc := 33) hC dX6_listNotOnPath_33 rfl ?_
          refine x_getO (pc := 35) hC (gp_X6_67 h1) dX6_listNotOnPath_35 rfl h3 ?_
          refine x_astore (pc := 38) hC dX6_listNotOnPath_38 (Nat.le_of_ble_eq_true rfl) ?_
          dsimp only [List.set]
          refine x_goto (pc := 40) hC 5 dX6_listNotOnPath_40 (by decide) ?_
          refine x_aload (pc := 5) hC dX6_listNotOnPath_5 rfl ?_
          refine x_ifnull (pc := 7) hC 43 dX6_listNotOnPath_7 (by decide) (fun _ => ?_) (fun _ h => by cases h)
          refine x_iload_n (pc := 43) hC dX6_listNotOnPath_43 rfl ?_
          refine x_iret (pc := 44) hC rfl dX6_listNotOnPath_44 ?_
          rw [he]
          exact ⟨⟨rfl, rfl, s1, s2⟩, rfl, rfl, rfl⟩
        · refine x_aload_n (pc := 25) hC dX6_listNotOnPath_25 rfl ?_
          refine x_iload_n (pc := 26) hC dX6_listNotOnPath_26 rfl ?_
          refine x_aload (pc := 27) hC dX6_listNotOnPath_27 rfl ?_
          refine x_aast (pc := 29) hC axEl_15 dX6_listNotOnPath_29 hl (by omega) (by rw [hN]; omega) (fun v hv => by cases hv; exact axTakes_5 h1) ?_
          refine x_iinc (pc := 30) hC dX6_listNotOnPath_30 rfl ?_
          dsimp only [List.set]
          rw [List.filter_cons_of_pos (by simpa using b22), List.filter_nil] at he
          refine x_aload (pc := 33) hC dX6_listNotOnPath_33 rfl ?_
          refine x_getO (pc := 35) hC (gp_X6_67 h1) dX6_listNotOnPath_35 rfl (Eq.trans (axu_a (hlA _ h1)) h3) ?_
          refine x_astore (pc := 38) hC dX6_listNotOnPath_38 (Nat.le_of_ble_eq_true rfl) ?_
          dsimp only [List.set]
          refine x_goto (pc := 40) hC 5 dX6_listNotOnPath_40 (by decide) ?_
          refine x_aload (pc := 5) hC dX6_listNotOnPath_5 rfl ?_
          refine x_ifnull (pc := 7) hC 43 dX6_listNotOnPath_7 (by decide) (fun _ => ?_) (fun _ h => by cases h)
          refine x_iload_n (pc := 43) hC dX6_listNotOnPath_43 rfl ?_
          refine x_iret (pc := 44) hC rfl dX6_listNotOnPath_44 ?_
          rw [he]
          exact ⟨⟨by rw [List.length_append]; rfl, rfl, fun q hq => by rw [axu_row hq]; exact s1 q hq, add S D y s2⟩, rfl, rfl, rfl⟩
    induction n with
    | zero => intro y D S hn h0 hy s1 s2 he; exact go0 y D S (by omega) h0 hy s1 s2 he
    | succ n ih =>
      intro y D S hn h0 hy s1 s2 he
      by_cases hy0 : y = 0
      · exact go0 y D S hy0 h0 hy s1 s2 he
      · have hS : cmS T N I S A w m p := cmS_fr h (fun q hq => s1 q (hlA q hq))
        obtain ⟨h1, h2, h3, h4, h5⟩ := hS.2 y h0 hy
        rw [if_neg hy0] at h3
        have hp := h.1.2 y (by omega) hy
        obtain ⟨g1, -⟩ := h.2 (p y) hp.1 (by omega)
        have hDl := congrArg List.length he
        rw [List.length_append] at hDl
        rw [path_cons h.1 (by omega) hy] at he hDl
        refine x_aload (pc := 5) hC dX6_listNotOnPath_5 rfl ?_
        refine x_ifnull (pc := 7) hC 43 dX6_listNotOnPath_7 (by decide) (fun h => by cases h) (fun _ _ => ?_)
        refine x_iload_n (pc := 10) hC dX6_listNotOnPath_10 rfl ?_
        refine x_aload_n (pc := 11) hC dX6_listNotOnPath_11 rfl ?_
        refine x_alen (pc := 12) hC dX6_listNotOnPath_12 (by rw [hl]; decide) (by rw [hl]; decide) ?_
        rw [hN]
        refine x_icmp_ge (pc := 13) hC 43 dX6_listNotOnPath_13 (by decide) (by omega) (by omega) (fun b13 => ?_) (fun b13 => ?_)
        · have hre := List.eq_nil_of_length_eq_zero (show ((y :: path p (p y)).filter (fun y => decide (y ∉ path p d))).length = 0 by omega)
          rw [hre, List.append_nil] at he
          refine x_iload_n (pc := 43) hC dX6_listNotOnPath_43 rfl ?_
          refine x_iret (pc := 44) hC rfl dX6_listNotOnPath_44 ?_
          rw [he]
          exact ⟨⟨rfl, rfl, s1, s2⟩, rfl, rfl, rfl⟩
        · refine x_aload (pc := 16) hC dX6_listNotOnPath_16 rfl ?_
          refine x_aload_n (pc := 18) hC dX6_listNotOnPath_18 rfl ?_
          refine x_mU (pc := 19) hC (cq_X6_63 h1) dX6_listNotOnPath_19 (c_isOnPathOf hS ⟨h0, hy⟩ hd) rfl rfl (by decide) rfl rfl (Nat.le_of_ble_eq_true rfl) ?_
          dsimp only [Option.toList, List.cons_append, List.nil_append]
          refine x_ifB_ne (pc := 22) hC 33 dX6_listNotOnPath_22 (by decide) (fun b22 => ?_) (fun b22 => ?_)
          · rw [List.filter_cons_of_neg (by simpa using b22)] at he
            refine x_aload (pc := 33) hC dX6_listNotOnPath_33 rfl ?_
            refine x_getO (pc := 35) hC (gp_X6_67 h1) dX6_listNotOnPath_35 rfl h3 ?_
            refine x_astore (pc := 38) hC dX6_listNotOnPath_38 (Nat.le_of_ble_eq_true rfl) ?_
            dsimp only [List.set]
            refine x_goto (pc := 40) hC 5 dX6_listNotOnPath_40 (by decide) ?_
            exact ih (p y) D S (by omega) hp.1 (by omega) s1 s2 he
          · refine x_aload_n (pc := 25) hC dX6_listNotOnPath_25 rfl ?_
            refine x_iload_n (pc := 26) hC dX6_listNotOnPath_26 rfl ?_
            refine x_aload (pc := 27) hC dX6_listNotOnPath_27 rfl ?_
            refine x_aast (pc := 29) hC axEl_15 dX6_listNotOnPath_29 hl (by omega) (by rw [hN]; omega) (fun v hv => by cases hv; exact axTakes_5 h1) ?_
            refine x_iinc (pc := 30) hC dX6_listNotOnPath_30 rfl ?_
            dsimp only [List.set]
            rw [List.filter_cons_of_pos (by simpa using b22), ← List.singleton_append, ← List.append_assoc] at he
            refine x_aload (pc := 33) hC dX6_listNotOnPath_33 rfl ?_
            refine x_getO (pc := 35) hC (gp_X6_67 h1) dX6_listNotOnPath_35 rfl (Eq.trans (axu_a (hlA _ h1)) h3) ?_
            refine x_astore (pc := 38) hC dX6_listNotOnPath_38 (Nat.le_of_ble_eq_true rfl) ?_
            dsimp only [List.set]
            refine x_goto (pc := 40) hC 5 dX6_listNotOnPath_40 (by decide) ?_
            have := ih (p y) (D ++ [y]) (ax_u S l (D.length : Int) (some (A y))) (by omega) hp.1 (by omega) (fun q hq => by rw [axu_row hq]; exact s1 q hq) (add S D y s2) he
            rw [List.length_append] at this
            exact this
  refine x_iconst (pc := 0) hC dX6_listNotOnPath_0 ?_
  refine x_istore_n (pc := 1) hC dX6_listNotOnPath_1 (Nat.le_of_ble_eq_true rfl) ?_
  dsimp only [List.set]
  refine x_aload_n (pc := 2) hC dX6_listNotOnPath_2 rfl ?_
  refine x_astore (pc := 3) hC dX6_listNotOnPath_3 (Nat.le_of_ble_eq_true rfl) ?_
  dsimp only [List.set]
  exact loop c.toNat c [] R (Nat.le_refl _) hc.1 hc.2 (fun _ _ => rfl) (fun k v hk => by simp at hk) rfl

set_option maxHeartbeats 4000000 in
set_option maxRecDepth 100000 in
theorem c_commitAtWork {G : ax_G} {T : Nat → Nat} {N : Nat → Int} {I : Nat → Int → Int} {R : Nat → Int → Option Nat} {z : Nat} {r w : Nat} (hr : rpT T N R r w) (h5 : ax_r (I r 5)) : axE G YX6_commitAtWork 0 [vR r] T N I R z (some (vO (if 0 ≤ I r 5 ∧ I r 5 < 24 then R w (I r 5) else R r 2))) I := by

  refine ax_enter (by decide) (Nat.le_of_ble_eq_true rfl) (ax_cat rfl) (fun f hC => ?_)
  show axX G f 0 0 _ 0 [vR r] [] T N I R z 0 0
  refine x_aload_n (pc := 0) hC dX6_commitAtWork_0 rfl ?_
  refine x_getI (pc := 1) hC gf_X6_17 dX6_commitAtWork_1 hr.1 ?_
  refine x_if_lt (pc := 4) hC 31 dX6_commitAtWork_4 (by decide) (by omega) (fun b4 => ?_) (fun b4 => ?_)
  · refine x_aload_n (pc := 31) hC dX6_commitAtWork_31 rfl ?_
    refine x_getO (pc := 32) hC gf_X6_41 dX6_commitAtWork_32 hr.1 rfl ?_
    refine x_aret (pc := 35) hC rfl (Or.inl ⟨_, rfl⟩) dX6_commitAtWork_35 ?_
    refine ⟨?_, rfl, rfl, rfl, rfl, rfl⟩
    first
    | (rw [if_pos (by omega)]; done)
    | (rw [if_neg (by omega)]; done)
  · refine x_aload_n (pc := 7) hC dX6_commitAtWork_7 rfl ?_
    refine x_getI (pc := 8) hC gf_X6_17 dX6_commitAtWork_8 hr.1 ?_
    refine x_aload_n (pc := 11) hC dX6_commitAtWork_11 rfl ?_
    refine x_getO (pc := 12) hC gf_X6_11 dX6_commitAtWork_12 hr.1 hr.2.1.1 ?_
    refine x_alen (pc := 15) hC dX6_commitAtWork_15 (by rw [hr.2.1.2.1]; decide) (by rw [hr.2.1.2.1]; decide) ?_
    rw [hr.2.1.2.2]
    refine x_icmp_ge (pc := 16) hC 31 dX6_commitAtWork_16 (by decide) (by omega) (by omega) (fun b16 => ?_) (fun b16 => ?_)
    · refine x_aload_n (pc := 31) hC dX6_commitAtWork_31 rfl ?_
      refine x_getO (pc := 32) hC gf_X6_41 dX6_commitAtWork_32 hr.1 rfl ?_
      refine x_aret (pc := 35) hC rfl (Or.inl ⟨_, rfl⟩) dX6_commitAtWork_35 ?_
      refine ⟨?_, rfl, rfl, rfl, rfl, rfl⟩
      first
      | (rw [if_pos (by omega)]; done)
      | (rw [if_neg (by omega)]; done)
    · refine x_aload_n (pc := 19) hC dX6_commitAtWork_19 rfl ?_
      refine x_getO (pc := 20) hC gf_X6_11 dX6_commitAtWork_20 hr.1 hr.2.1.1 ?_
      refine x_aload_n (pc := 23) hC dX6_commitAtWork_23 rfl ?_
      refine x_getI (pc := 24) hC gf_X6_17 dX6_commitAtWork_24 hr.1 ?_
      refine x_aald (pc := 27) hC axEl_15 dX6_commitAtWork_27 hr.2.1.2.1 (by omega) (by rw [hr.2.1.2.2]; omega) rfl ?_
      refine x_goto (pc := 28) hC 35 dX6_commitAtWork_28 (by decide) ?_
      refine x_aret (pc := 35) hC rfl (Or.inl ⟨_, rfl⟩) dX6_commitAtWork_35 ?_
      refine ⟨?_, rfl, rfl, rfl, rfl, rfl⟩
      first
      | (rw [if_pos (by omega)]; done)
      | (rw [if_neg (by omega)]; done)

