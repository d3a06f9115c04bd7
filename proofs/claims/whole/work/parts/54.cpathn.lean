/-! THE CLASS: the numbers of a path -/
set_option maxHeartbeats 4000000 in
set_option maxRecDepth 100000 in
theorem c_pathNumbers {G : ax_G} {T : Nat → Nat} {N : Nat → Int} {I : Nat → Int → Int} {R : Nat → Int → Option Nat} {z : Nat} {A w : Int → Nat} {m : Int} {p : Int → Int} (h : cmS T N I R A w m p) {c : Int} (hc : 0 ≤ c ∧ c < m) (hz : ∀ c, 0 ≤ c → c < m → A c ≠ z) (hl : (path p c).length ≤ 24) : axM G YX5_pathNumbers 1 [vR (A c)] T N I R z 1 (path p c).length (frA T N I R z (path p c).reverse) := by

  refine ax_enter (by decide) (Nat.le_of_ble_eq_true rfl) (ax_cat rfl) (fun f hC => ?_)
  show axX G f 1 (path p c).length _ 0 [vR (A c), vU, vU, vU] [] T N I R z 1 (path p c).length
  have k1 := (h.2 c hc.1 hc.2).1
  have hf : ∀ c, 0 ≤ c → c < m → pT (ax_n T z 13 (A c)) ∧ R (A c) = ax_n R z (fun _ => none) (A c) := fun c a1 a2 => ⟨by rw [axn_a (hz c a1 a2)]; exact (h.2 c a1 a2).1, (axn_a (hz c a1 a2)).symm⟩
  have fin : ∀ (row : Int → Int), seg row 0 ((path p c).length : Int) = (path p c).reverse → (frA T N I R z (path p c).reverse) (some (vR z)) (ax_n T z 13) (ax_n N z ((path p c).length : Int)) (ax_n I z row) (ax_n R z (fun _ => none)) (z + 1) := fun row hrow => ⟨rfl, rfl, by rw [List.length_reverse], rfl, rfl, row, rfl, by rw [List.length_reverse]; exact hrow⟩
  have loop : ∀ (n : Nat) (y i : Int) (row : Int → Int) (k n9 : Nat), y.toNat ≤ n → 0 ≤ y → y < m → i = (path p y).length → (path p y).reverse ++ seg row i ((path p c).length : Int) = (path p c).reverse → axX G f 1 (path p c).length (frA T N I R z (path p c).reverse) 12 [vR (A c), vR z, vI i, vR (A y)] [] (ax_n T z 13) (ax_n N z ((path p c).length : Int)) (ax_n I z row) (ax_n R z (fun _ => none)) (z + 1) k n9 := by
    intro n
    have go0 : ∀ (y i : Int) (row : Int → Int) (k n9 : Nat), y = 0 → 0 ≤ y → y < m → i = (path p y).length → (path p y).reverse ++ seg row i ((path p c).length : Int) = (path p c).reverse → axX G f 1 (path p c).length (frA T N I R z (path p c).reverse) 12 [vR (A c), vR z, vI i, vR (A y)] [] (ax_n T z 13) (ax_n N z ((path p c).length : Int)) (ax_n I z row) (ax_n R z (fun _ => none)) (z + 1) k n9 := by
      intro y i row k n9 hy0 h0 hy hi he
      obtain ⟨h1, h2, h3, h4, h5⟩ := h.2 y h0 hy
      have hzy := hz y h0 hy
      rw [if_pos hy0] at h3
      have hpy : path p y = [y] := by rw [hy0]; exact path_0 h.1
      rw [hpy] at hi he
      have hi1 : i = 1 := hi
      have hlen := congrArg List.length he
      simp only [List.length_append, List.length_reverse, seg_len, List.length_cons, List.length_nil] at hlen
      refine x_aload_n (pc := 12) hC dX5_pathNumbers_12 rfl ?_
      refine x_ifnull (pc := 13) hC 38 dX5_pathNumbers_13 (by decide) (fun h => by cases h) (fun _ _ => ?_)
      refine x_iload_n (pc := 16) hC dX5_pathNumbers_16 rfl ?_
      refine x_if_le (pc := 17) hC 38 dX5_pathNumbers_17 (by decide) (by omega) (fun b17 => ?_) (fun b17 => ?_)
      · exfalso; omega
      · refine x_iinc (pc := 20) hC dX5_pathNumbers_20 rfl ?_
        dsimp only [List.set]
        refine x_aload_n (pc := 23) hC dX5_pathNumbers_23 rfl ?_
        refine x_iload_n (pc := 24) hC dX5_pathNumbers_24 rfl ?_
        refine x_aload_n (pc := 25) hC dX5_pathNumbers_25 rfl ?_
        refine x_getI (pc := 26) hC (gp_X5_15 (hf y h0 hy).1) dX5_pathNumbers_26 rfl ?_
        rw [axn_a hzy, h2]
        refine x_iast (pc := 29) hC dX5_pathNumbers_29 axn_s (by omega) (by rw [axn_s]; omega) ?_
        refine x_aload_n (pc := 30) hC dX5_pathNumbers_30 rfl ?_
        refine x_getO (pc := 31) hC (gp_X5_19 (hf y h0 hy).1) dX5_pathNumbers_31 rfl (Eq.trans (congrFun (axn_a hzy) 2) h3) ?_
        refine x_astore_n (pc := 34) hC dX5_pathNumbers_34 (Nat.le_of_ble_eq_true rfl) ?_
        dsimp only [List.set]
        refine x_goto (pc := 35) hC 12 dX5_pathNumbers_35 (by decide) ?_
        rw [axn_u]
        refine x_aload_n (pc := 12) hC dX5_pathNumbers_12 rfl ?_
        refine x_ifnull (pc := 13) hC 38 dX5_pathNumbers_13 (by decide) (fun _ => ?_) (fun _ h => by cases h)
        refine x_aload_n (pc := 38) hC dX5_pathNumbers_38 rfl ?_
        refine x_aret (pc := 39) hC rfl (Or.inr ⟨_, rfl⟩) dX5_pathNumbers_39 ?_
        refine fin _ ?_
        rw [← he, seg_cons (by omega), if_pos (by omega)]
        show y :: _ = y :: _
        rw [hi1]
        congr 1
        exact seg_congr (fun k a1 a2 => if_neg (by omega))
    induction n with
    | zero => intro y i row k n9 hn h0 hy hi he; exact go0 y i row k n9 (by omega) h0 hy hi he
    | succ n ih =>
      intro y i row k n9 hn h0 hy hi he
      by_cases hy0 : y = 0
      · exact go0 y i row k n9 hy0 h0 hy hi he
      · obtain ⟨h1, h2, h3, h4, h5⟩ := h.2 y h0 hy
        have hzy := hz y h0 hy
        rw [if_neg hy0] at h3
        have hp := h.1.2 y (by omega) hy
        have g1 := (hf (p y) hp.1 (by omega)).1
        have hlen := congrArg List.length he
        simp only [List.length_append, List.length_reverse, seg_len] at hlen
        have hpc := path_cons h.1 (show 0 < y by omega) hy
        have hpl : (path p y).length = (path p (p y)).length + 1 := by rw [hpc]; rfl
        refine x_aload_n (pc := 12) hC dX5_pathNumbers_12 rfl ?_
        refine x_ifnull (pc := 13) hC 38 dX5_pathNumbers_13 (by decide) (fun h => by cases h) (fun _ _ => ?_)
        refine x_iload_n (pc := 16) hC dX5_pathNumbers_16 rfl ?_
        refine x_if_le (pc := 17) hC 38 dX5_pathNumbers_17 (by decide) (by omega) (fun b17 => ?_) (fun b17 => ?_)
        · exfalso; omega
        · refine x_iinc (pc := 20) hC dX5_pathNumbers_20 rfl ?_
          dsimp only [List.set]
          refine x_aload_n (pc := 23) hC dX5_pathNumbers_23 rfl ?_
          refine x_iload_n (pc := 24) hC dX5_pathNumbers_24 rfl ?_
          refine x_aload_n (pc := 25) hC dX5_pathNumbers_25 rfl ?_
          refine x_getI (pc := 26) hC (gp_X5_15 (hf y h0 hy).1) dX5_pathNumbers_26 rfl ?_
          rw [axn_a hzy, h2]
          refine x_iast (pc := 29) hC dX5_pathNumbers_29 axn_s (by omega) (by rw [axn_s]; omega) ?_
          refine x_aload_n (pc := 30) hC dX5_pathNumbers_30 rfl ?_
          refine x_getO (pc := 31) hC (gp_X5_19 (hf y h0 hy).1) dX5_pathNumbers_31 rfl (Eq.trans (congrFun (axn_a hzy) 2) h3) ?_
          refine x_astore_n (pc := 34) hC dX5_pathNumbers_34 (Nat.le_of_ble_eq_true rfl) ?_
          dsimp only [List.set]
          refine x_goto (pc := 35) hC 12 dX5_pathNumbers_35 (by decide) ?_
          rw [axn_u]
          refine ih (p y) (i + -1) _ _ _ (by omega) hp.1 (by omega) (by omega) ?_
          rw [← he, hpc, List.reverse_cons, List.append_assoc, seg_cons (i := i + -1) (by omega), if_pos rfl]
          congr 1
          show y :: _ = y :: _
          congr 1
          rw [show i + -1 + 1 = i by omega]
          exact seg_congr (fun k a1 a2 => if_neg (by omega))
  refine x_aload_n (pc := 0) hC dX5_pathNumbers_0 rfl ?_
  refine x_mU (pc := 1) hC (cq_X5_44 k1) dX5_pathNumbers_1 (c_pathLength h hc) rfl rfl (by decide) rfl rfl (Nat.le_of_ble_eq_true rfl) ?_
  dsimp only [Option.toList, List.cons_append, List.nil_append]
  refine x_newi (pc := 4) hC w_arrI dX5_pathNumbers_4 (by omega) (by omega) (by omega) (by omega) ?_
  refine x_astore_n (pc := 6) hC dX5_pathNumbers_6 (Nat.le_of_ble_eq_true rfl) ?_
  dsimp only [List.set]
  refine x_aload_n (pc := 7) hC dX5_pathNumbers_7 rfl ?_
  refine x_alen (pc := 8) hC dX5_pathNumbers_8 (by rw [axn_s]; decide) (by rw [axn_s]; decide) ?_
  rw [axn_s]
  refine x_istore_n (pc := 9) hC dX5_pathNumbers_9 (Nat.le_of_ble_eq_true rfl) ?_
  dsimp only [List.set]
  refine x_aload_n (pc := 10) hC dX5_pathNumbers_10 rfl ?_
  refine x_astore_n (pc := 11) hC dX5_pathNumbers_11 (Nat.le_of_ble_eq_true rfl) ?_
  dsimp only [List.set]
  exact loop _ c _ (fun _ => 0) _ _ (Nat.le_refl _) hc.1 hc.2 rfl (by rw [seg_nil (Int.le_refl _), List.append_nil])

