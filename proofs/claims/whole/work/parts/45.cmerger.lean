/-! THE CLASS: the merger -/
def mgT (T : Nat → Nat) (N : Nat → Int) (R : Nat → Int → Option Nat) (g : Nat) : Prop := T g = 3 ∧ (R g 0 = some (g + 1) ∧ T (g + 1) = 16 ∧ N (g + 1) = 8) ∧ (R g 2 = some (g + 2) ∧ T (g + 2) = 13 ∧ N (g + 2) = 150) ∧ (R g 6 = some (g + 3) ∧ mtT T N R (g + 3)) ∧ (R g 7 = some (g + 42) ∧ mtT T N R (g + 42)) ∧ (R g 8 = some (g + 81) ∧ T (g + 81) = 4) ∧ (R g 9 = some (g + 82) ∧ T (g + 82) = 4) ∧ (R g 10 = some (g + 83) ∧ T (g + 83) = 4) ∧ (R g 11 = some (g + 84) ∧ T (g + 84) = 4) ∧ (R g 12 = some (g + 85) ∧ T (g + 85) = 4) ∧ (R g 13 = some (g + 86) ∧ T (g + 86) = 4) ∧ (R g 14 = some (g + 87) ∧ shT T N R (g + 87)) ∧ R g 15 = some (g + 90) ∧ shT T N R (g + 90)
/-- references of the merger: only its parts' rows and the shape may change -/
def mgF (R S : Nat → Int → Option Nat) (g : Nat) : Prop := (∀ q, q ≠ g → (q < g + 81 ∨ g + 87 ≤ q) → S q = R q) ∧ ∀ k, k ≠ 16 → S g k = R g k
theorem mgF.rf {R : Nat → Int → Option Nat} {g : Nat} : mgF R R g := ⟨fun _ _ _ => rfl, fun _ _ => rfl⟩
theorem mgF.tr {R S U : Nat → Int → Option Nat} {g : Nat} (h1 : mgF R S g) (h2 : mgF S U g) : mgF R U g := ⟨fun q a b => (h2.1 q a b).trans (h1.1 q a b), fun k a => (h2.2 k a).trans (h1.2 k a)⟩
theorem shT_fr {T : Nat → Nat} {N : Nat → Int} {R S : Nat → Int → Option Nat} {s : Nat} (h : shT T N R s) (hS : S s = R s) : shT T N S s := by unfold shT at *; rw [hS]; exact h
theorem mgT_fr {T : Nat → Nat} {N : Nat → Int} {R S : Nat → Int → Option Nat} {g : Nat} (h : mgT T N R g) (hF : mgF R S g) : mgT T N S g := by
  obtain ⟨h1, h2, h3, ⟨h4, h4'⟩, ⟨h5, h5'⟩, h6, h7, h8, h9, h10, h11, ⟨h12, h12'⟩, h13, h13'⟩ := h
  unfold mgT
  rw [hF.2 0 (by decide), hF.2 2 (by decide), hF.2 6 (by decide), hF.2 7 (by decide), hF.2 8 (by decide), hF.2 9 (by decide), hF.2 10 (by decide), hF.2 11 (by decide), hF.2 12 (by decide), hF.2 13 (by decide), hF.2 14 (by decide), hF.2 15 (by decide)]
  exact ⟨h1, h2, h3, ⟨h4, mtT_fr h4' (fun q a b => hF.1 q (by omega) (by omega))⟩, ⟨h5, mtT_fr h5' (fun q a b => hF.1 q (by omega) (by omega))⟩, h6, h7, h8, h9, h10, h11, ⟨h12, shT_fr h12' (hF.1 _ (by omega) (by omega))⟩, h13, shT_fr h13' (hF.1 _ (by omega) (by omega))⟩
/-- the result so far -/
def rlS (I : Nat → Int → Int) (g : Nat) (L : List Int) : Prop := I g 3 = L.length ∧ seg (I (g + 2)) 0 L.length = L
theorem rlS_push {J : Nat → Int → Int} {g : Nat} {L : List Int} {v w : Int} (h : rlS J g L) (hw : w = J g 3 + 1) : rlS (ax_u (ax_u J (g + 2) (J g 3) v) g 3 w) g (L ++ [v]) := by
  obtain ⟨h1, h2⟩ := h
  refine ⟨?_, ?_⟩
  · rw [axu_s, hw, h1]; simp
  · refine seg_push h2 (fun k a b => ?_) ?_
    · rw [axu_a (by omega), axu_j (by omega)]
    · rw [axu_a (by omega), h1, axu_s]
/-- only the result has changed -/
def rlF (I J : Nat → Int → Int) (g : Nat) : Prop := (∀ q, q ≠ g → q ≠ g + 2 → J q = I q) ∧ ∀ k, k ≠ 3 → J g k = I g k
theorem rlF.rf {I : Nat → Int → Int} {g : Nat} : rlF I I g := ⟨fun _ _ _ => rfl, fun _ _ => rfl⟩
theorem rlF.tr {I J K : Nat → Int → Int} {g : Nat} (h1 : rlF I J g) (h2 : rlF J K g) : rlF I K g := ⟨fun q a b => (h2.1 q a b).trans (h1.1 q a b), fun k a => (h2.2 k a).trans (h1.2 k a)⟩

set_option maxHeartbeats 4000000 in
set_option maxRecDepth 100000 in
theorem c_findShape {G : ax_G} {T : Nat → Nat} {N : Nat → Int} {I : Nat → Int → Int} {R : Nat → Int → Option Nat} {z : Nat} {g p o t : Nat} {B O Th : List Int} (hg : mgT T N R g) (hp : ptS T N I R p B) (ho : ptS T N I R o O) (ht : ptS T N I R t Th) (lp : isLn B) (lo_ : isLn O) (lt_ : isLn Th) (bB : B.length ≤ 16) (bO : O.length ≤ 16) (bT : Th.length ≤ 16) (hpo : (p < g + 87 ∨ g + 93 ≤ p) ∧ (o < g + 87 ∨ g + 93 ≤ o) ∧ (t < g + 87 ∨ g + 93 ≤ t)) (ap : ∀ r, R p 0 = some r → r < g + 87 ∨ g + 93 ≤ r) (ao : ∀ r, R o 0 = some r → r < g + 87 ∨ g + 93 ≤ r) (at_ : ∀ r, R t 0 = some r → r < g + 87 ∨ g + 93 ≤ r) : axR G YX3_findShape 1 [vR g, vR p, vR o, vR t] T N I R z (fun r1 I1 R1 => r1 = none ∧ (∀ q, q < g + 87 ∨ g + 93 ≤ q → I1 q = I q) ∧ shS I1 (g + 87) (shpSeq B O Th) ∧ shS I1 (g + 90) (shpSeq B Th O) ∧ R1 = ax_u R g 16 (some (if lxF (shpSeq B O Th).1 (shpSeq B Th O).1 = 1 then g + 90 else g + 87))) := by

  refine ax_enter (by decide) (Nat.le_of_ble_eq_true rfl) (ax_cat rfl) (fun f hC => ?_)
  show axX G f 0 0 _ 0 [vR g, vR p, vR o, vR t] [] T N I R z 0 0
  obtain ⟨hpo1, hpo2, hpo3⟩ := hpo
  have lo := lo_
  have lt := lt_
  have n1 : isLn (([], []) : List Int × List Int).2 := isLn.nil
  have n5 := n1
  have q0 : ((([], []) : List Int × List Int).1.length = 0) ∧ ((([], []) : List Int × List Int).2.length = 0) := ⟨rfl, rfl⟩
  have at9 := at_
  refine x_aload_n (pc := 0) hC dX3_findShape_0 rfl ?_
  refine x_getO (pc := 1) hC gf_X3_56 dX3_findShape_1 hg.1 hg.2.2.2.2.2.2.2.2.2.2.2.1.1 ?_
  refine x_mVx (pc := 4) hC cv_X3_131 dX3_findShape_4 (c_clear hg.2.2.2.2.2.2.2.2.2.2.2.1.2) hg.2.2.2.2.2.2.2.2.2.2.2.1.2.1 rfl (by decide) rfl rfl (Nat.le_of_ble_eq_true rfl) ?_
  rintro v J1 ⟨rfl, s1, f1⟩
  dsimp only [Option.toList, List.nil_append]
  have w1 : ∀ q, q < g + 87 ∨ g + 93 ≤ q → J1 q = I q := fun q h => f1 q (by omega)
  refine x_aload_n (pc := 7) hC dX3_findShape_7 rfl ?_
  refine x_getO (pc := 8) hC gf_X3_56 dX3_findShape_8 hg.1 hg.2.2.2.2.2.2.2.2.2.2.2.1.1 ?_
  refine x_aload_n (pc := 11) hC dX3_findShape_11 rfl ?_
  refine x_mVx (pc := 12) hC cv_X3_134 dX3_findShape_12 (c_addPart hg.2.2.2.2.2.2.2.2.2.2.2.1.2 s1 (ptS_fr hp (w1 p (by omega)) rfl (fun r hr => w1 r (by have := ap r hr; omega))) lp n1 (by omega) (by omega) (by omega) (fun r hr => by have := ap r hr; omega)) hg.2.2.2.2.2.2.2.2.2.2.2.1.2.1 rfl (by decide) rfl rfl (Nat.le_of_ble_eq_true rfl) ?_
  rintro v J2 ⟨rfl, s2, f2⟩
  dsimp only [Option.toList, List.nil_append]
  have w2 : ∀ q, q < g + 87 ∨ g + 93 ≤ q → J2 q = I q := fun q h => (f2 q (by omega)).trans (w1 q h)
  have n2 : isLn (shPart ([], []) B).2 := shPart_ln lp n1
  have z2 := shPart_l ([], []) B
  refine x_aload_n (pc := 15) hC dX3_findShape_15 rfl ?_
  refine x_getO (pc := 16) hC gf_X3_56 dX3_findShape_16 hg.1 hg.2.2.2.2.2.2.2.2.2.2.2.1.1 ?_
  refine x_aload_n (pc := 19) hC dX3_findShape_19 rfl ?_
  refine x_mVx (pc := 20) hC cv_X3_134 dX3_findShape_20 (c_addPart hg.2.2.2.2.2.2.2.2.2.2.2.1.2 s2 (ptS_fr ho (w2 o (by omega)) rfl (fun r hr => w2 r (by have := ao r hr; omega))) lo n2 (by omega) (by omega) (by omega) (fun r hr => by have := ao r hr; omega)) hg.2.2.2.2.2.2.2.2.2.2.2.1.2.1 rfl (by decide) rfl rfl (Nat.le_of_ble_eq_true rfl) ?_
  rintro v J3 ⟨rfl, s3, f3⟩
  dsimp only [Option.toList, List.nil_append]
  have w3 : ∀ q, q < g + 87 ∨ g + 93 ≤ q → J3 q = I q := fun q h => (f3 q (by omega)).trans (w2 q h)
  have n3 : isLn (shPart (shPart ([], []) B) O).2 := shPart_ln lo n2
  have z3 := shPart_l (shPart ([], []) B) O
  refine x_aload_n (pc := 23) hC dX3_findShape_23 rfl ?_
  refine x_getO (pc := 24) hC gf_X3_56 dX3_findShape_24 hg.1 hg.2.2.2.2.2.2.2.2.2.2.2.1.1 ?_
  refine x_aload_n (pc := 27) hC dX3_findShape_27 rfl ?_
  refine x_mVx (pc := 28) hC cv_X3_134 dX3_findShape_28 (c_addPart hg.2.2.2.2.2.2.2.2.2.2.2.1.2 s3 (ptS_fr ht (w3 t (by omega)) rfl (fun r hr => w3 r (by have := at9 r hr; omega))) lt n3 (by omega) (by omega) (by omega) (fun r hr => by have := at9 r hr; omega)) hg.2.2.2.2.2.2.2.2.2.2.2.1.2.1 rfl (by decide) rfl rfl (Nat.le_of_ble_eq_true rfl) ?_
  rintro v J4 ⟨rfl, s4, f4⟩
  dsimp only [Option.toList, List.nil_append]
  have w4 : ∀ q, q < g + 87 ∨ g + 93 ≤ q → J4 q = I q := fun q h => (f4 q (by omega)).trans (w3 q h)
  have n4 : isLn (shPart (shPart (shPart ([], []) B) O) Th).2 := shPart_ln lt n3
  have z4 := shPart_l (shPart (shPart ([], []) B) O) Th
  refine x_aload_n (pc := 31) hC dX3_findShape_31 rfl ?_
  refine x_getO (pc := 32) hC gf_X3_60 dX3_findShape_32 hg.1 hg.2.2.2.2.2.2.2.2.2.2.2.2.1 ?_
  refine x_mVx (pc := 35) hC cv_X3_131 dX3_findShape_35 (c_clear hg.2.2.2.2.2.2.2.2.2.2.2.2.2) hg.2.2.2.2.2.2.2.2.2.2.2.2.2.1 rfl (by decide) rfl rfl (Nat.le_of_ble_eq_true rfl) ?_
  rintro v J5 ⟨rfl, s5, f5⟩
  dsimp only [Option.toList, List.nil_append]
  have w5 : ∀ q, q < g + 87 ∨ g + 93 ≤ q → J5 q = I q := fun q h => (f5 q (by omega)).trans (w4 q h)
  have sO : shS J5 (g + 87) (shpSeq B O Th) := shS_fr s4 (f5 _ (by omega)) (f5 _ (by omega)) (f5 _ (by omega))
  refine x_aload_n (pc := 38) hC dX3_findShape_38 rfl ?_
  refine x_getO (pc := 39) hC gf_X3_60 dX3_findShape_39 hg.1 hg.2.2.2.2.2.2.2.2.2.2.2.2.1 ?_
  refine x_aload_n (pc := 42) hC dX3_findShape_42 rfl ?_
  refine x_mVx (pc := 43) hC cv_X3_134 dX3_findShape_43 (c_addPart hg.2.2.2.2.2.2.2.2.2.2.2.2.2 s5 (ptS_fr hp (w5 p (by omega)) rfl (fun r hr => w5 r (by have := ap r hr; omega))) lp n5 (by omega) (by omega) (by omega) (fun r hr => by have := ap r hr; omega)) hg.2.2.2.2.2.2.2.2.2.2.2.2.2.1 rfl (by decide) rfl rfl (Nat.le_of_ble_eq_true rfl) ?_
  rintro v J6 ⟨rfl, s6, f6⟩
  dsimp only [Option.toList, List.nil_append]
  have w6 : ∀ q, q < g + 87 ∨ g + 93 ≤ q → J6 q = I q := fun q h => (f6 q (by omega)).trans (w5 q h)
  have n6 : isLn (shPart ([], []) B).2 := shPart_ln lp n5
  have z6 := shPart_l ([], []) B
  refine x_aload_n (pc := 46) hC dX3_findShape_46 rfl ?_
  refine x_getO (pc := 47) hC gf_X3_60 dX3_findShape_47 hg.1 hg.2.2.2.2.2.2.2.2.2.2.2.2.1 ?_
  refine x_aload_n (pc := 50) hC dX3_findShape_50 rfl ?_
  refine x_mVx (pc := 51) hC cv_X3_134 dX3_findShape_51 (c_addPart hg.2.2.2.2.2.2.2.2.2.2.2.2.2 s6 (ptS_fr ht (w6 t (by omega)) rfl (fun r hr => w6 r (by have := at9 r hr; omega))) lt n6 (by omega) (by omega) (by omega) (fun r hr => by have := at9 r hr; omega)) hg.2.2.2.2.2.2.2.2.2.2.2.2.2.1 rfl (by decide) rfl rfl (Nat.le_of_ble_eq_true rfl) ?_
  rintro v J7 ⟨rfl, s7, f7⟩
  dsimp only [Option.toList, List.nil_append]
  have w7 : ∀ q, q < g + 87 ∨ g + 93 ≤ q → J7 q = I q := fun q h => (f7 q (by omega)).trans (w6 q h)
  have n7 : isLn (shPart (shPart ([], []) B) Th).2 := shPart_ln lt n6
  have z7 := shPart_l (shPart ([], []) B) Th
  refine x_aload_n (pc := 54) hC dX3_findShape_54 rfl ?_
  refine x_getO (pc := 55) hC gf_X3_60 dX3_findShape_55 hg.1 hg.2.2.2.2.2.2.2.2.2.2.2.2.1 ?_
  refine x_aload_n (pc := 58) hC dX3_findShape_58 rfl ?_
  refine x_mVx (pc := 59) hC cv_X3_134 dX3_findShape_59 (c_addPart hg.2.2.2.2.2.2.2.2.2.2.2.2.2 s7 (ptS_fr ho (w7 o (by omega)) rfl (fun r hr => w7 r (by have := ao r hr; omega))) lo n7 (by omega) (by omega) (by omega) (fun r hr => by have := ao r hr; omega)) hg.2.2.2.2.2.2.2.2.2.2.2.2.2.1 rfl (by decide) rfl rfl (Nat.le_of_ble_eq_true rfl) ?_
  rintro v J8 ⟨rfl, s8, f8⟩
  dsimp only [Option.toList, List.nil_append]
  have w8 : ∀ q, q < g + 87 ∨ g + 93 ≤ q → J8 q = I q := fun q h => (f8 q (by omega)).trans (w7 q h)
  have n8 : isLn (shPart (shPart (shPart ([], []) B) Th) O).2 := shPart_ln lo n7
  have z8 := shPart_l (shPart (shPart ([], []) B) Th) O
  refine x_aload_n (pc := 62) hC dX3_findShape_62 rfl ?_
  refine x_aload_n (pc := 63) hC dX3_findShape_63 rfl ?_
  have sO8 : shS J8 (g + 87) (shpSeq B O Th) := shS_fr sO ((f8 _ (by omega)).trans ((f7 _ (by omega)).trans (f6 _ (by omega)))) ((f8 _ (by omega)).trans ((f7 _ (by omega)).trans (f6 _ (by omega)))) ((f8 _ (by omega)).trans ((f7 _ (by omega)).trans (f6 _ (by omega))))
  have rO : ∀ v ∈ (shpSeq B O Th).1, 0 ≤ v ∧ v < 1000 := fun v hv => by have := shpSeq_r (B := B) (X := O) (Y := Th) (by omega) v hv; omega
  have rT : ∀ v ∈ (shpSeq B Th O).1, 0 ≤ v ∧ v < 1000 := fun v hv => by have := shpSeq_r (B := B) (X := Th) (Y := O) (by omega) v hv; omega
  have zO := shpSeq_l B O Th
  have zT := shpSeq_l B Th O
  change shS J8 (g + 90) (shpSeq B Th O) at s8
  refine x_getO (pc := 64) hC gf_X3_60 dX3_findShape_64 hg.1 hg.2.2.2.2.2.2.2.2.2.2.2.2.1 ?_
  refine x_aload_n (pc := 67) hC dX3_findShape_67 rfl ?_
  refine x_getO (pc := 68) hC gf_X3_56 dX3_findShape_68 hg.1 hg.2.2.2.2.2.2.2.2.2.2.2.1.1 ?_
  refine x_mV (pc := 71) hC cv_X3_137 dX3_findShape_71 (c_isBelow hg.2.2.2.2.2.2.2.2.2.2.2.2.2 hg.2.2.2.2.2.2.2.2.2.2.2.1.2 s8 sO8 (by omega) (by omega) rT rO) hg.2.2.2.2.2.2.2.2.2.2.2.2.2.1 rfl (by decide) rfl rfl (Nat.le_of_ble_eq_true rfl) ?_
  refine x_ifB_eq (pc := 74) hC 84 dX3_findShape_74 (by decide) (fun b74 => ?_) (fun b74 => ?_)
  · refine x_aload_n (pc := 84) hC dX3_findShape_84 rfl ?_
    refine x_getO (pc := 85) hC gf_X3_56 dX3_findShape_85 hg.1 hg.2.2.2.2.2.2.2.2.2.2.2.1.1 ?_
    refine x_putO (pc := 88) hC pf_X3_63 dX3_findShape_88 (Or.inl ⟨_, rfl⟩) hg.1 (by decide) ?_
    refine x_vret (pc := 91) hC rfl dX3_findShape_91 ?_
    refine ⟨⟨rfl, w8, sO8, s8, ?_⟩, rfl, rfl, rfl⟩
    first
    | (rw [if_pos b74]; done)
    | (rw [if_neg b74]; done)
  · refine x_aload_n (pc := 77) hC dX3_findShape_77 rfl ?_
    refine x_getO (pc := 78) hC gf_X3_60 dX3_findShape_78 hg.1 hg.2.2.2.2.2.2.2.2.2.2.2.2.1 ?_
    refine x_goto (pc := 81) hC 88 dX3_findShape_81 (by decide) ?_
    refine x_putO (pc := 88) hC pf_X3_63 dX3_findShape_88 (Or.inl ⟨_, rfl⟩) hg.1 (by decide) ?_
    refine x_vret (pc := 91) hC rfl dX3_findShape_91 ?_
    refine ⟨⟨rfl, w8, sO8, s8, ?_⟩, rfl, rfl, rfl⟩
    first
    | (rw [if_pos b74]; done)
    | (rw [if_neg b74]; done)

