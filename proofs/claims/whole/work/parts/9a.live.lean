/-! WHAT LIVES ON: the relation and the invariant when only passing rows of the reference differ -/
def lq (σ J : Nat → Int → Int) (o : Nat) : Prop := (∀ k : Nat, ((1 ≤ k ∧ k < 5) ∨ k = 7 ∨ (20 ≤ k ∧ k < 37 ∧ k ≠ 28)) → J (o + k) = σ (o + k)) ∧ (∀ j, j < 384 → J (o + 5) j = σ (o + 5) j) ∧ (∀ j, j < 24 → J (o + 6) j = σ (o + 6) j) ∧ (∀ k : Int, k < 13 ∨ k = 30 ∨ k = 35 ∨ (40 ≤ k ∧ k < 46) ∨ k = 47 → J o k = σ o k) ∧ (σ o 40 ≠ 0 → J (o + 28) = σ (o + 28) ∧ J o 46 = σ o 46)
theorem lq_of {I σ J : Nat → Int → Int} {o : Nat} (h : lvE (mx o I σ) J o) : lq σ J o := by
  obtain ⟨h1, h2, h3, h4, h5⟩ := h
  refine ⟨fun k hk => ?_, fun j hj => ?_, fun j hj => ?_, fun k hk => ?_, fun h9 => ?_⟩
  · rw [h1 (o + k) (by omega), mx_in (by omega) (by omega)]
  · rw [h2 j hj, mx_5]
  · rw [h3 j hj, mx_6]
  · rw [h4 k hk, mx_0]
  · rw [mx_0, mx_28] at h5
    exact h5 h9
theorem lq_row {σ J : Nat → Int → Int} {o : Nat} (h : lq σ J o) (hl : lnOk σ o) {c : Int} (hc : c < 24) : rowL J o c = rowL σ o c := by
  have h6 := h.2.2.1 c hc
  have hs := hl.2 c
  unfold rowL rwI
  rw [h6]
  exact seg_congr (fun k a1 a2 => h.2.1 (16 * c + k) (by omega))
theorem lq_chg {σ J : Nat → Int → Int} {o : Nat} (h : lq σ J o) (hC : miC σ o) (hJ : lnOk J o) {c : Int} (h0 : 0 ≤ c) (hc : c < σ o 2) : chgC J o c = chgC σ o c := by
  have hm := hC.1
  have hp : σ (o + 2) c < 24 := by
    by_cases h9 : 0 < c
    · have := hC.2.2.1.2 c h9 hc; omega
    · have e1 : c = 0 := by omega
      rw [e1, hC.2.2.2.1]; omega
  rw [chgC_list (fun j => (hJ.2 j).1), chgC_list (fun j => (hC.2.1.2 j).1), h.1 2 (by omega), lq_row h hC.2.1 hp, lq_row h hC.2.1 (show c < 24 by omega)]
theorem lq_th {σ J : Nat → Int → Int} {o : Nat} (h : lq σ J o) (hC : miC σ o) (hJ : lnOk J o) {x b c : Int} (h0 : 0 ≤ x) (hx : x < σ o 2) : thP J o x b c ↔ thP σ o x b c := by
  have hl : thL J o b c = thL σ o b c := by unfold thL; rw [h.2.2.2.1 2 (by omega), h.1 2 (by omega), h.1 7 (by omega)]
  have hin : ∀ y ∈ thL σ o b c, 0 ≤ y ∧ y < σ o 2 := fun y hy => by
    unfold thL at hy
    obtain ⟨k, k1, k2, k3⟩ := seg_mem.mp (List.mem_filter.mp hy).1
    have k4 : k = y := k3
    omega
  unfold thP
  rw [hl, h.1 1 (by omega), lq_chg h hC hJ h0 hx]
  constructor
  · rintro ⟨k1, y, k2, k3⟩; exact ⟨k1, y, k2, by rw [k3, lq_chg h hC hJ (hin y k2).1 (hin y k2).2]⟩
  · rintro ⟨k1, y, k2, k3⟩; exact ⟨k1, y, k2, by rw [k3, lq_chg h hC hJ (hin y k2).1 (hin y k2).2]⟩
theorem iv_lq {σ J : Nat → Int → Int} {o : Nat} {n : Int} (h : INV σ o n) (hq : lq σ J o) (hJ : lnOk J o) : INV J o n := by
  have hC := iv_C h
  obtain ⟨q1, q5, q6, qo, qs⟩ := hq
  have f40 := qo 40 (by omega)
  refine ⟨⟨by rw [qo 2 (by omega)]; exact hC.1, hJ, by rw [q1 2 (by omega), qo 2 (by omega)]; exact hC.2.2.1, by rw [q1 2 (by omega)]; exact hC.2.2.2.1, by rw [q1 7 (by omega), qo 2 (by omega)]; exact hC.2.2.2.2.1, by rw [q1 1 (by omega)]; exact hC.2.2.2.2.2⟩, miR_eq (qo 30 (by omega)) (q1 20 (by omega)) (q1 21 (by omega)) (q1 22 (by omega)) (q1 23 (by omega)) (iv_R h), miS_fr (iv_S h) (qo 3 (by omega)) (q1 4 (by omega)) (fun q h1 h2 => by
    have e1 := q1 (q - o) (by omega)
    rw [show o + (q - o) = q by omega] at e1
    exact e1), miK_fr (iv_K h) (q1 24 (by omega)) (q1 25 (by omega)) (q1 26 (by omega)) (q1 27 (by omega)) (qo 35 (by omega)), by rw [q6 0 (by omega)]; exact iv_0 h, by rw [f40]; exact iv_40 h, fun h9 => ?_, by rw [qo 3 (by omega)]; exact iv_n h⟩
  rw [f40] at h9
  obtain ⟨s1, s2, s3, s4, s5, s6, s7, s8⟩ := iv_st h h9
  obtain ⟨e28, e46⟩ := qs h9
  have fo : ∀ k, k = 2 ∨ (41 ≤ k ∧ k ≤ 47) → J o k = σ o k := fun k hk => by
    by_cases e1 : k = 46
    · rw [e1]; exact e46
    · exact qo k (by omega)
  have gx := s1.2.1 (σ o 47) (by have := s1.1; omega) s2
  refine ⟨rp_fr s1 e28 fo, ?_, ?_, ?_, ?_, ?_, ?_, ?_⟩
  · rw [fo 47 (by omega), fo 46 (by omega)]; exact s2
  · rw [fo 47 (by omega), fo 46 (by omega), fo 2 (by omega)]; exact s3
  · rw [fo 43 (by omega), fo 42 (by omega), fo 44 (by omega)]; exact s4
  · rw [fo 42 (by omega), fo 44 (by omega)]; exact s5
  · rw [fo 2 (by omega), fo 44 (by omega)]; exact s6
  · rw [q1 7 (by omega), fo 44 (by omega)]; exact s7
  · unfold goX at *
    rw [e28, fo 47 (by omega), fo 41 (by omega), fo 42 (by omega), lq_th ⟨q1, q5, q6, qo, qs⟩ hC hJ (by omega) gx.2]
    exact s8
theorem rl_lq {G : ax_G} {T : Nat → Nat} {N : Nat → Int} {I : Nat → Int → Int} {R : Nat → Int → Option Nat} {z a o : Nat} {σ : Nat → Int → Int} {A w : Int → Nat} {J K : Nat → Int → Int} (h : RelA G T N I R z a o σ A w) (hC : miC σ o) (hq : lq σ J o) (ei : ∀ q, q < o ∨ o + 37 ≤ q → K q = I q) : RelA G T N K R z a o J A w := by
  have hx := rl_fx h
  have b0 := fx_b0 hx
  have b1 := fx_b1 hx
  have hnl := (fx_nl hx).2
  have hm := hC.1
  have hrow : ∀ c, c < 24 → rowL J o c = rowL σ o c := fun c hc => lq_row hq hC.2.1 hc
  obtain ⟨q1, q5, q6, qo, qs⟩ := hq
  have f2 := qo 2 (by omega)
  have f40 := qo 40 (by omega)
  have cc := rl_cc h
  have cs := rl_cs h
  have eE : ∀ q p, reE T N I R a o q p → reE T N K R a o q p := fun q p hq => reE_fr hq (fun u hu _ hs => ⟨ei u (by omega), hs⟩) (fun q _ _ => rfl)
  have eA : ∀ c, 0 ≤ c → c < σ o 2 → K (A c) = I (A c) ∧ K (w c) = I (w c) := fun c a1 a2 => by
    obtain ⟨-, -, -, -, -, -, c7, c8⟩ := cc c a1 a2
    exact ⟨ei _ (by omega), ei _ (by omega)⟩
  have hcs : cmS T N K R A w (J o 2) (J (o + 2)) := by
    rw [f2, q1 2 (by omega)]
    exact ⟨cs.1, fun c a1 a2 => by
      obtain ⟨e1, e3⟩ := eA c a1 a2
      obtain ⟨c1, c2, c3, c4, c5⟩ := cs.2 c a1 a2
      rw [e1]
      exact ⟨c1, c2, c3, c4, rwS_fr c5 e3⟩⟩
  have eRs : rsL J o = rsL σ o := rsL_eq (qo 30 (by omega)) (q1 20 (by omega)) (q1 21 (by omega)) (q1 22 (by omega)) (q1 23 (by omega))
  have eKp : kpL J o = kpL σ o := kpL_fr (q1 24 (by omega)) (q1 25 (by omega)) (q1 26 (by omega)) (q1 27 (by omega)) (qo 35 (by omega))
  have eTh : thR J o = thR σ o := by unfold thR; rw [q1 2 (by omega), q1 7 (by omega), qo 42 (by omega), qo 41 (by omega)]
  refine ⟨hx, fun j hj => by rw [ei (a + 176) (by omega)]; exact rl_sg h j hj, by rw [ei a (by omega), f2]; exact rl_n h, by rw [ei (a + 1) (by omega), qo 1 (by omega)]; exact rl_t h, by rw [ei a (by omega), qo 0 (by omega)]; exact rl_f h, hcs, fun c a1 a2 => ?_, fun b a1 a2 => by rw [q1 7 (by omega)]; exact rl_tp h b a1 a2, fun s hs => ?_, fun s hs u hu => ?_, ⟨by rw [ei (a + 5) (by omega), eRs]; exact (rl_rs h).1, by rw [eRs]; exact (rl_rs h).2.1, fun k p hp => ?_⟩, rl_r7 h, fun k a1 a2 => by rw [ei (a + 186) (by omega), q1 29 (by omega)]; exact rl_fg h k a1 a2, by rw [ei (a + 183) (by omega), f40]; exact rl_st h, fun h40 => ?_⟩
  · rw [f2] at a2
    obtain ⟨e1, e3⟩ := eA c a1 a2
    rw [e1, e3, q1 1 (by omega), q1 3 (by omega), q6 c (by omega), hrow c (by omega)]
    exact cc c a1 a2
  · have k := rl_sl h s hs
    unfold slK hlv slL at *
    rw [ei (a + 177 + s) (by omega), q1 31 (by omega), q1 32 (by omega), q1 33 (by omega), q1 34 (by omega), q1 35 (by omega), q1 36 (by omega), q1 4 (by omega), f2]
    refine ⟨k.1, k.2.1, k.2.2.1, fun h9 => ?_, fun h9 => ?_⟩
    · obtain ⟨x1, x2, u, x3, x4, x5, x6, x7⟩ := k.2.2.2.1 h9
      exact ⟨x1, x2, u, x3, x4, x5, by rw [ei u (by omega)]; exact x6, x7⟩
    · obtain ⟨x1, u, x3, x4, x5, x6, x7, x8⟩ := k.2.2.2.2 h9
      exact ⟨x1, u, x3, x4, x5, x6, x7, fun h8 => by rw [ei u (by omega)]; exact x8 h8⟩
  · obtain ⟨x1, x2⟩ := rl_sd h s hs u hu
    exact ⟨fun c a1 a2 => x1 c a1 (by rw [← f2]; exact a2), x2⟩
  · rw [eRs] at hp
    obtain ⟨q, x1, x2⟩ := (rl_rs h).2.2 k p hp
    exact ⟨q, x1, eE q p x2⟩
  · rw [f40] at h40
    obtain ⟨e28, e46⟩ := qs h40
    obtain ⟨k1, k2, k3, k4, k5, k6, k7, k8⟩ := rl_rp h h40
    unfold rpK
    rw [ei (a + 183) (by omega), ei (a + 187) (by omega), eTh, eKp, e28, e46, q1 30 (by omega), qo 41 (by omega), qo 42 (by omega), qo 43 (by omega), qo 44 (by omega), qo 47 (by omega)]
    refine ⟨k1, k2, k3, k4, k5, k6, k7, fun k p hp => ?_⟩
    obtain ⟨q, x1, x2⟩ := k8 k p hp
    exact ⟨q, x1, eE q p x2⟩
/-- what holds between two rounds of the law's loop -/
def axLP (G : ax_G) (T : Nat → Nat) (N : Nat → Int) (I : Nat → Int → Int) (R : Nat → Int → Option Nat) (z a o : Nat) (n : Int) : Prop := axMo T N R o ∧ ∃ (σ : Nat → Int → Int) (A w : Int → Nat), RelA G T N I R z a o σ A w ∧ INV σ o n ∧ I = mx o I σ
/-- .. when the reference has ended with what lives on -/
theorem axLP_lv {G : ax_G} {T : Nat → Nat} {N : Nat → Int} {I : Nat → Int → Int} {R : Nat → Int → Option Nat} {z a o : Nat} {A w : Int → Nat} {σ1 J : Nat → Int → Int} {n : Int} (M : axMo T N R o) (h : RelA G T N I R z a o σ1 A w) (hi : INV σ1 o n) (hv : lvE (mx o I σ1) J o) (hJ : lnOk J o) (ho : outE (mx o I σ1) J o) : axLP G T N J R z a o n :=
  ⟨M, J, A, w, rl_lq h (iv_C hi) (lq_of hv) (fun q hq => by rw [ho q hq, mx_out hq]), iv_lq hi (lq_of hv) hJ, mx_self.symm⟩
theorem axLP_sc {G : ax_G} {T : Nat → Nat} {N : Nat → Int} {I : Nat → Int → Int} {R : Nat → Int → Option Nat} {z a o : Nat} {A w : Int → Nat} {σ1 J : Nat → Int → Int} {n : Int} (M : axMo T N R o) (h : RelA G T N I R z a o σ1 A w) (hi : INV σ1 o n) (hs : scr (mx o I σ1) J o) : axLP G T N J R z a o n :=
  axLP_lv M h hi hs.lvE (by unfold lnOk; rw [hs.1 (o + 5) (by omega) (by omega), hs.1 (o + 6) (by omega) (by omega), mx_5, mx_6]; exact (iv_C hi).2.1) hs.outE
theorem axLP_ex {G : ax_G} {T : Nat → Nat} {N : Nat → Int} {I : Nat → Int → Int} {R : Nat → Int → Option Nat} {z a o : Nat} {A w : Int → Nat} {σ1 : Nat → Int → Int} {n : Int} (M : axMo T N R o) (h : RelA G T N I R z a o σ1 A w) (hi : INV σ1 o n) : axLP G T N (mx o I σ1) R z a o n := axLP_sc M h hi scr.rf
theorem mo_fro {T T1 : Nat → Nat} {N N1 : Nat → Int} {I I1 : Nat → Int → Int} {R R1 : Nat → Int → Option Nat} {a o : Nat} (M : axMo T N R o) (h : fro a o T N I R T1 N1 I1 R1) : axMo T1 N1 R1 o := by
  refine ⟨by rw [(h o (by omega)).1]; exact M.1, fun q hq => ?_⟩
  have hb : q.2.1 < 37 := by
    have h9 : moTab.all (fun q => decide (q.2.1 < 37)) = true := by decide
    exact of_decide_eq_true (List.all_eq_true.mp h9 q hq)
  obtain ⟨m1, m2, m3⟩ := M.2 q hq
  have e1 := h (o + q.2.1) (by omega)
  exact ⟨by rw [(h o (by omega)).2.2.2]; exact m1, by rw [e1.1]; exact m2, by rw [e1.2.1]; exact m3⟩
theorem mx_fro {T T1 : Nat → Nat} {N N1 : Nat → Int} {I I1 σ : Nat → Int → Int} {R R1 : Nat → Int → Option Nat} {a o : Nat} (e : I = mx o I σ) (h : fro a o T N I R T1 N1 I1 R1) : I1 = mx o I1 σ := by
  refine mx_of (fun q q1 q2 => ?_)
  rw [(h q (Or.inr ⟨q1, q2⟩)).2.2.1, e, mx_in q1 q2]
/-- a reading call of the class -/
theorem rd_px {G : ax_G} {T : Nat → Nat} {N : Nat → Int} {I : Nat → Int → Int} {R : Nat → Int → Option Nat} {z a o : Nat} {σ : Nat → Int → Int} {A w : Int → Nat} {Y : ax_Y} {d : Nat} {as : List ax_V} {v : ax_V} (h : RelA G T N I R z a o σ A w) (hM : axR G Y d as T N I R z (fun r1 I1 R1 => r1 = some v ∧ scK T N a I I1 R R1)) : axM G Y d as T N I R z 0 0 (rPX G T N I R z a o v σ) := by
  have b1 := fx_b1 (rl_fx h)
  refine axM.weaken hM (fun r T1 N1 I1 R1 z1 q => ?_)
  obtain ⟨⟨q1, q2⟩, rfl, rfl, rfl⟩ := q
  exact ⟨q1, fun x hx => ⟨rfl, rfl, (q2.1 x (by omega)).1, (q2.1 x (by omega)).2⟩, Nat.le_refl _, A, w, rl_sc h q2⟩

