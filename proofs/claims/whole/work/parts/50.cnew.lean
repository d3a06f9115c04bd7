/-! THE CLASS: new arrays -/
/-- the answer is a new array with these numbers -/
def frA (T : Nat → Nat) (N : Nat → Int) (I : Nat → Int → Int) (R : Nat → Int → Option Nat) (z : Nat) (L : List Int) : ax_P := fun r1 T1 N1 I1 R1 z1 => r1 = some (vR z) ∧ T1 = ax_n T z 13 ∧ N1 = ax_n N z (L.length : Int) ∧ R1 = ax_n R z (fun _ => none) ∧ z1 = z + 1 ∧ ∃ row, I1 = ax_n I z row ∧ seg row 0 (L.length : Int) = L
theorem ax_c_new {I : Nat → Int → Int} {a z : Nat} {n : Int} (h : a ≠ z) : ax_c (ax_n I z (fun _ => 0)) a 0 z 0 n = ax_n I z (fun j => if 0 ≤ j ∧ j < n then I a j else 0) := by
  funext q j
  unfold ax_c ax_n
  by_cases hq : q = z
  · subst hq
    simp [h]
  · simp [hq]

set_option maxHeartbeats 4000000 in
set_option maxRecDepth 100000 in
theorem c_copyOf {G : ax_G} {T : Nat → Nat} {N : Nat → Int} {I : Nat → Int → Int} {R : Nat → Int → Option Nat} {z : Nat} {a : Nat} {n : Int} (ha : T a = 13) (hB : G.2.2.2.1 ≤ a ∧ G.2.2.2.1 ≤ z) (haz : a ≠ z) (h0 : 0 ≤ n) (h1 : n ≤ N a) (hN : N a ≤ 100000) : axM G YJ7_copyOf_59c91 1 [vR a, vI n] T N I R z 1 n.toNat (frA T N I R z (seg (I a) 0 n)) := by

  refine ax_enter (by decide) (Nat.le_of_ble_eq_true rfl) (ax_cat rfl) (fun f hC => ?_)
  show axX G f 1 n.toNat _ 0 [vR a, vI n, vU] [] T N I R z 1 n.toNat
  have hl : ((seg (I a) 0 n).length : Int) = n := by rw [seg_len]; omega
  refine x_iload_n (pc := 0) hC dJ7_copyOf_59c91_0 rfl ?_
  refine x_aload_n (pc := 1) hC dJ7_copyOf_59c91_1 rfl ?_
  refine x_alen (pc := 2) hC dJ7_copyOf_59c91_2 (by rw [ha]; decide) (by rw [ha]; decide) ?_
  refine x_icmp_ne (pc := 3) hC 14 dJ7_copyOf_59c91_3 (by decide) (by omega) (by omega) (fun b3 => ?_) (fun b3 => ?_)
  · refine x_iload_n (pc := 14) hC dJ7_copyOf_59c91_14 rfl ?_
    refine x_newi (pc := 15) hC w_arrI dJ7_copyOf_59c91_15 (by omega) (by omega) (by omega) (by omega) ?_
    refine x_astore_n (pc := 17) hC dJ7_copyOf_59c91_17 (Nat.le_of_ble_eq_true rfl) ?_
    dsimp only [List.set]
    refine x_aload_n (pc := 18) hC dJ7_copyOf_59c91_18 rfl ?_
    refine x_iconst (pc := 19) hC dJ7_copyOf_59c91_19 ?_
    refine x_aload_n (pc := 20) hC dJ7_copyOf_59c91_20 rfl ?_
    refine x_iconst (pc := 21) hC dJ7_copyOf_59c91_21 ?_
    refine x_aload_n (pc := 22) hC dJ7_copyOf_59c91_22 rfl ?_
    refine x_alen (pc := 23) hC dJ7_copyOf_59c91_23 (by rw [(Eq.trans (axn_a haz) ha)]; decide) (by rw [(Eq.trans (axn_a haz) ha)]; decide) ?_
    rw [axn_a haz]
    refine x_iload_n (pc := 24) hC dJ7_copyOf_59c91_24 rfl ?_
    refine x_mmin (pc := 25) hC cs_J7_304 dJ7_copyOf_59c91_25 (by omega) (by omega) (by decide) rfl (Nat.le_of_ble_eq_true rfl) ?_
    rw [show min (N a) n = n by omega]
    refine x_acopy (pc := 28) hC ac_J7_150 w_acnat w_acst w_sysini dJ7_copyOf_59c91_28 (Eq.trans (axn_a haz) ha) axn_s hB.1 hB.2 (by omega) (by omega) (by omega) (by rw [axn_a haz]; omega) (by rw [axn_s]; omega) (by decide) rfl (Nat.le_of_ble_eq_true rfl) ?_
    refine x_aload_n (pc := 31) hC dJ7_copyOf_59c91_31 rfl ?_
    refine x_aret (pc := 32) hC rfl (Or.inr ⟨_, rfl⟩) dJ7_copyOf_59c91_32 ?_
    rw [ax_c_new haz]
    refine ⟨rfl, rfl, by rw [hl], rfl, rfl, _, rfl, ?_⟩
    rw [hl]
    exact seg_congr (fun k a1 a2 => if_pos ⟨a1, a2⟩)
  · refine x_aload_n (pc := 6) hC dJ7_copyOf_59c91_6 rfl ?_
    refine x_clone (pc := 7) hC cl_J7_316 w_clsame w_clnat w_clinst w_clsel n_clone dJ7_copyOf_59c91_7 ha (by decide) rfl (Nat.le_of_ble_eq_true rfl) (by omega) (by omega) ?_
    refine x_castI (pc := 10) hC kl_J7_317 dJ7_copyOf_59c91_10 axn_s ?_
    refine x_aret (pc := 13) hC rfl (Or.inr ⟨_, rfl⟩) dJ7_copyOf_59c91_13 ?_
    have e : n = N a := by omega
    subst e
    refine ⟨rfl, rfl, by rw [hl], rfl, rfl, I a, rfl, by rw [hl]⟩

set_option maxHeartbeats 4000000 in
set_option maxRecDepth 100000 in
theorem c_fill {G : ax_G} {T : Nat → Nat} {N : Nat → Int} {I : Nat → Int → Int} {R : Nat → Int → Option Nat} {z : Nat} {r : Nat} {v : Int} (hr : T r = 13) (hN : 0 ≤ N r ∧ N r ≤ 100000) : axEx G YJ7_fill_53178 0 [vR r, vI v] T N I R z (fun r1 I1 => r1 = none ∧ (∀ q, q ≠ r → I1 q = I q) ∧ ∀ j, 0 ≤ j → j < N r → I1 r j = v) := by

  refine ax_enter (by decide) (Nat.le_of_ble_eq_true rfl) (ax_cat rfl) (fun f hC => ?_)
  show axX G f 0 0 _ 0 [vR r, vI v, vU, vU] [] T N I R z 0 0
  have loop : ∀ (n : Nat) (x : Int) (J : Nat → Int → Int), (N r - x).toNat ≤ n → 0 ≤ x → x ≤ N r → (∀ q, q ≠ r → J q = I q) → (∀ j, 0 ≤ j → j < x → J r j = v) → axX G f 0 0 (fun r1 T1 N1 I1 R1 z1 => (r1 = none ∧ (∀ q, q ≠ r → I1 q = I q) ∧ ∀ j, 0 ≤ j → j < N r → I1 r j = v) ∧ T1 = T ∧ N1 = N ∧ R1 = R ∧ z1 = z) 5 [vR r, vI v, vI x, vI (N r)] [] T N J R z 0 0 := by
    intro n
    induction n with
    | zero =>
      intro x J hn h0 h1 hJ hv
      refine x_iload_n (pc := 5) hC dJ7_fill_53178_5 rfl ?_
      refine x_iload_n (pc := 6) hC dJ7_fill_53178_6 rfl ?_
      refine x_icmp_ge (pc := 7) hC 20 dJ7_fill_53178_7 (by decide) (by omega) (by omega) (fun b7 => ?_) (fun b7 => ?_)
      · refine x_vret (pc := 20) hC rfl dJ7_fill_53178_20 ?_
        exact ⟨⟨rfl, hJ, fun j a1 a2 => hv j a1 (by omega)⟩, rfl, rfl, rfl, rfl⟩
      · omega
    | succ n ih =>
      intro x J hn h0 h1 hJ hv
      refine x_iload_n (pc := 5) hC dJ7_fill_53178_5 rfl ?_
      refine x_iload_n (pc := 6) hC dJ7_fill_53178_6 rfl ?_
      refine x_icmp_ge (pc := 7) hC 20 dJ7_fill_53178_7 (by decide) (by omega) (by omega) (fun b7 => ?_) (fun b7 => ?_)
      · refine x_vret (pc := 20) hC rfl dJ7_fill_53178_20 ?_
        exact ⟨⟨rfl, hJ, fun j a1 a2 => hv j a1 (by omega)⟩, rfl, rfl, rfl, rfl⟩
      · refine x_aload_n (pc := 10) hC dJ7_fill_53178_10 rfl ?_
        refine x_iload_n (pc := 11) hC dJ7_fill_53178_11 rfl ?_
        refine x_iload_n (pc := 12) hC dJ7_fill_53178_12 rfl ?_
        refine x_iast (pc := 13) hC dJ7_fill_53178_13 hr (by omega) (by omega) ?_
        refine x_iinc (pc := 14) hC dJ7_fill_53178_14 rfl ?_
        dsimp only [List.set]
        refine x_goto (pc := 17) hC 5 dJ7_fill_53178_17 (by decide) ?_
        refine ih (x + 1) _ (by omega) (by omega) (by omega) (fun q hq => by rw [axu_row hq]; exact hJ q hq) (fun j a1 a2 => ?_)
        by_cases hj : j = x
        · rw [hj, axu_s]
        · rw [axu_j hj]; exact hv j a1 (by omega)
  refine x_iconst (pc := 0) hC dJ7_fill_53178_0 ?_
  refine x_istore_n (pc := 1) hC dJ7_fill_53178_1 (Nat.le_of_ble_eq_true rfl) ?_
  dsimp only [List.set]
  refine x_aload_n (pc := 2) hC dJ7_fill_53178_2 rfl ?_
  refine x_alen (pc := 3) hC dJ7_fill_53178_3 (by rw [hr]; decide) (by rw [hr]; decide) ?_
  refine x_istore_n (pc := 4) hC dJ7_fill_53178_4 (Nat.le_of_ble_eq_true rfl) ?_
  dsimp only [List.set]
  exact loop _ 0 I (Nat.le_refl _) (by omega) hN.1 (fun _ _ => rfl) (fun j a1 a2 => by omega)

set_option maxHeartbeats 4000000 in
set_option maxRecDepth 100000 in
theorem c_copyResult {G : ax_G} {T : Nat → Nat} {N : Nat → Int} {I : Nat → Int → Int} {R : Nat → Int → Option Nat} {z : Nat} {g : Nat} {L : List Int} (hg : mgT T N R g) (hL : rlS I g L) (h150 : L.length ≤ 150) (hB : G.2.2.2.1 ≤ g) (hz : g + 93 ≤ z) : axM G YX3_copyResult 2 [vR g] T N I R z 1 L.length (frA T N I R z L) := by

  refine ax_enter (by decide) (Nat.le_of_ble_eq_true rfl) (ax_cat rfl) (fun f hC => ?_)
  show axX G f 1 L.length _ 0 [vR g] [] T N I R z 1 L.length
  have h3 := hL.1
  have hc := c_copyOf (G := G) (T := T) (N := N) (I := I) (R := R) (z := z) (a := g + 2) (n := (L.length : Int)) hg.2.2.1.2.1 (by omega) (by omega) (by omega) (by rw [hg.2.2.1.2.2]; omega) (by rw [hg.2.2.1.2.2]; omega)
  rw [Int.toNat_natCast, hL.2] at hc
  refine x_aload_n (pc := 0) hC dX3_copyResult_0 rfl ?_
  refine x_getO (pc := 1) hC gf_X3_17 dX3_copyResult_1 hg.1 hg.2.2.1.1 ?_
  refine x_aload_n (pc := 4) hC dX3_copyResult_4 rfl ?_
  refine x_getI (pc := 5) hC gf_X3_70 dX3_copyResult_5 hg.1 ?_
  rw [h3]
  refine x_callS (pc := 8) hC cs_X3_165 dX3_copyResult_8 hc rfl (by decide) (by omega) (by omega) rfl rfl (Nat.le_of_ble_eq_true rfl) (fun _ _ _ _ _ _ hq => ?_)
  obtain ⟨rfl, rfl, rfl, rfl, rfl, row, rfl, hrow⟩ := hq
  dsimp only [Option.toList, List.cons_append, List.nil_append]
  refine x_aret (pc := 11) hC rfl (Or.inr ⟨_, rfl⟩) dX3_copyResult_11 ?_
  exact ⟨rfl, rfl, rfl, rfl, rfl, row, rfl, hrow⟩

set_option maxHeartbeats 4000000 in
set_option maxRecDepth 100000 in
theorem c_leave {G : ax_G} {T : Nat → Nat} {N : Nat → Int} {I : Nat → Int → Int} {R : Nat → Int → Option Nat} {z : Nat} {t : Nat} {n : Int} (ht : T t = 10) : axE G YX10_leave 0 [vR t, vI n] T N I R z none (ax_u I t 0 (31 * I t 0 + n)) := by

  refine ax_enter (by decide) (Nat.le_of_ble_eq_true rfl) (ax_cat rfl) (fun f hC => ?_)
  show axX G f 0 0 _ 0 [vR t, vI n] [] T N I R z 0 0
  refine x_aload_n (pc := 0) hC dX10_leave_0 rfl ?_
  refine x_bipush (pc := 1) hC dX10_leave_1 (by decide) ?_
  refine x_aload_n (pc := 3) hC dX10_leave_3 rfl ?_
  refine x_getI (pc := 4) hC gf_X10_7 dX10_leave_4 ht ?_
  refine x_imul (pc := 7) hC dX10_leave_7 ?_
  refine x_iload_n (pc := 8) hC dX10_leave_8 rfl ?_
  refine x_iadd (pc := 9) hC dX10_leave_9 ?_
  refine x_putI (pc := 10) hC pf_X10_7 dX10_leave_10 ht (by decide) ?_
  refine x_vret (pc := 13) hC rfl dX10_leave_13 ?_
  exact ⟨rfl, rfl, rfl, rfl, rfl, rfl⟩

def slF (x : Option Nat) : Int := match x with
  | none => 0
  | some _ => 1

set_option maxHeartbeats 4000000 in
set_option maxRecDepth 100000 in
theorem c_isEmpty {G : ax_G} {T : Nat → Nat} {N : Nat → Int} {I : Nat → Int → Int} {R : Nat → Int → Option Nat} {z : Nat} {s : Nat} (hs : T s = 9) : axE G YX9_isEmpty 0 [vR s] T N I R z (some (vI (bI (R s 0 = none ∧ R s 2 = none)))) I := by

  refine ax_enter (by decide) (Nat.le_of_ble_eq_true rfl) (ax_cat rfl) (fun f hC => ?_)
  show axX G f 0 0 _ 0 [vR s] [] T N I R z 0 0
  refine x_aload_n (pc := 0) hC dX9_isEmpty_0 rfl ?_
  refine x_getO (pc := 1) hC gf_X9_9 dX9_isEmpty_1 hs rfl ?_
  refine x_ifnonnull (pc := 4) hC 18 dX9_isEmpty_4 (by decide) (fun q4 b4 => ?_) (fun b4 => ?_)
  · refine x_iconst (pc := 18) hC dX9_isEmpty_18 ?_
    refine x_zret (pc := 19) hC rfl dX9_isEmpty_19 (Or.inl rfl) ?_
    refine ⟨?_, rfl, rfl, rfl, rfl, rfl⟩
    first
    | (rw [bI_t ⟨b4, b11⟩]; done)
    | (rw [bI_f (fun h => by rw [h.2] at b11; cases b11)]; done)
    | (rw [bI_f (fun h => by rw [h.1] at b4; cases b4)]; done)
  · refine x_aload_n (pc := 7) hC dX9_isEmpty_7 rfl ?_
    refine x_getO (pc := 8) hC gf_X9_15 dX9_isEmpty_8 hs rfl ?_
    refine x_ifnonnull (pc := 11) hC 18 dX9_isEmpty_11 (by decide) (fun q11 b11 => ?_) (fun b11 => ?_)
    · refine x_iconst (pc := 18) hC dX9_isEmpty_18 ?_
      refine x_zret (pc := 19) hC rfl dX9_isEmpty_19 (Or.inl rfl) ?_
      refine ⟨?_, rfl, rfl, rfl, rfl, rfl⟩
      first
      | (rw [bI_t ⟨b4, b11⟩]; done)
      | (rw [bI_f (fun h => by rw [h.2] at b11; cases b11)]; done)
      | (rw [bI_f (fun h => by rw [h.1] at b4; cases b4)]; done)
    · refine x_iconst (pc := 14) hC dX9_isEmpty_14 ?_
      refine x_goto (pc := 15) hC 19 dX9_isEmpty_15 (by decide) ?_
      refine x_zret (pc := 19) hC rfl dX9_isEmpty_19 (Or.inr rfl) ?_
      refine ⟨?_, rfl, rfl, rfl, rfl, rfl⟩
      first
      | (rw [bI_t ⟨b4, b11⟩]; done)
      | (rw [bI_f (fun h => by rw [h.2] at b11; cases b11)]; done)
      | (rw [bI_f (fun h => by rw [h.1] at b4; cases b4)]; done)

set_option maxHeartbeats 4000000 in
set_option maxRecDepth 100000 in
theorem c_putArray {G : ax_G} {T : Nat → Nat} {N : Nat → Int} {I : Nat → Int → Int} {R : Nat → Int → Option Nat} {z : Nat} {s : Nat} {x : Option Nat} {b : Int} (hs : T s = 9) (hb : b = 0 ∨ b = 1) : axR G YX9_putArray 0 [vR s, vO x, vI b] T N I R z (fun r1 I1 R1 => r1 = none ∧ I1 = ax_u I s 1 b ∧ R1 = ax_u (ax_u R s 0 x) s 2 none) := by

  refine ax_enter (by decide) (Nat.le_of_ble_eq_true rfl) (ax_cat (by cases x <;> rfl)) (fun f hC => ?_)
  show axX G f 0 0 _ 0 [vR s, vO x, vI b] [] T N I R z 0 0
  refine x_aload_n (pc := 0) hC dX9_putArray_0 rfl ?_
  refine x_aload_n (pc := 1) hC dX9_putArray_1 rfl ?_
  refine x_putO (pc := 2) hC pf_X9_9 dX9_putArray_2 (Or.inr ⟨_, rfl⟩) hs (by decide) ?_
  refine x_aload_n (pc := 5) hC dX9_putArray_5 rfl ?_
  refine x_iload_n (pc := 6) hC dX9_putArray_6 rfl ?_
  refine x_putZ (pc := 7) hC pf_X9_19 dX9_putArray_7 hs (by decide) (by omega) ?_
  refine x_aload_n (pc := 10) hC dX9_putArray_10 rfl ?_
  refine x_null (pc := 11) hC dX9_putArray_11 ?_
  refine x_putO (pc := 12) hC pf_X9_15 dX9_putArray_12 (Or.inl ⟨_, rfl⟩) hs (by decide) ?_
  refine x_vret (pc := 15) hC rfl dX9_putArray_15 ?_
  exact ⟨⟨rfl, rfl, rfl⟩, rfl, rfl, rfl⟩

set_option maxHeartbeats 4000000 in
set_option maxRecDepth 100000 in
theorem c_putCommit {G : ax_G} {T : Nat → Nat} {N : Nat → Int} {I : Nat → Int → Int} {R : Nat → Int → Option Nat} {z : Nat} {s : Nat} {x : Option Nat} (hs : T s = 9) : axR G YX9_putCommit 0 [vR s, vO x] T N I R z (fun r1 I1 R1 => r1 = none ∧ I1 = I ∧ R1 = ax_u (ax_u R s 0 none) s 2 x) := by

  refine ax_enter (by decide) (Nat.le_of_ble_eq_true rfl) (ax_cat (by cases x <;> rfl)) (fun f hC => ?_)
  show axX G f 0 0 _ 0 [vR s, vO x] [] T N I R z 0 0
  refine x_aload_n (pc := 0) hC dX9_putCommit_0 rfl ?_
  refine x_null (pc := 1) hC dX9_putCommit_1 ?_
  refine x_putO (pc := 2) hC pf_X9_9 dX9_putCommit_2 (Or.inr ⟨_, rfl⟩) hs (by decide) ?_
  refine x_aload_n (pc := 5) hC dX9_putCommit_5 rfl ?_
  refine x_aload_n (pc := 6) hC dX9_putCommit_6 rfl ?_
  refine x_putO (pc := 7) hC pf_X9_15 dX9_putCommit_7 (Or.inl ⟨_, rfl⟩) hs (by decide) ?_
  refine x_vret (pc := 10) hC rfl dX9_putCommit_10 ?_
  exact ⟨⟨rfl, rfl, rfl⟩, rfl, rfl, rfl⟩

