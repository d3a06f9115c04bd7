/-! THE LAW: class and reference, called one behind the other with the same numbers -/
theorem iv_e {I σ : Nat → Int → Int} {o : Nat} {n : Int} (e : I = mx o I σ) (h : INV σ o n) : INV I o n := by
  rw [e]
  refine iv_lq h ⟨fun k hk => mx_in (by omega) (by omega), fun j _ => by rw [mx_5], fun j _ => by rw [mx_6], fun k _ => by rw [mx_0], fun _ => ⟨mx_28, by rw [mx_0]⟩⟩ ?_
  unfold lnOk
  rw [mx_5, mx_6]
  exact (iv_C h).2.1
/-- the two calls: the same answer, and all holds on -/
def PRC (G : ax_G) (Y1 Y2 : ax_Y) (d1 d2 k1 n1 : Nat) (as : List ax_V) (T : Nat → Nat) (N : Nat → Int) (I : Nat → Int → Int) (R : Nat → Int → Option Nat) (z a o : Nat) (n : Int) (v : ax_V) : Prop := axM G Y1 d1 (vR a :: as) T N I R z k1 n1 (fun r1 T1 N1 I1 R1 z1 => r1 = some v ∧ T1 o = 12 ∧ axM G Y2 d2 (vR o :: as) T1 N1 I1 R1 z1 0 0 (fun r2 T2 N2 I2 R2 z2 => r2 = some v ∧ axLP G T2 N2 I2 R2 z2 a o n))
def MEn (G : ax_G) (Y2 : ax_Y) (d2 o : Nat) (as : List ax_V) (T1 : Nat → Nat) (N1 : Nat → Int) (I1 : Nat → Int → Int) (R1 : Nat → Int → Option Nat) (z1 : Nat) (v : ax_V) (σ1 : Nat → Int → Int) : Prop := axM G Y2 d2 (vR o :: as) T1 N1 I1 R1 z1 0 0 (fun r2 T2 N2 I2 R2 z2 => r2 = some v ∧ T2 = T1 ∧ N2 = N1 ∧ R2 = R1 ∧ z2 = z1 ∧ lvE (mx o I1 σ1) I2 o ∧ lnOk I2 o ∧ outE (mx o I1 σ1) I2 o)
theorem pr_mk {G : ax_G} {T : Nat → Nat} {N : Nat → Int} {I : Nat → Int → Int} {R : Nat → Int → Option Nat} {z a o : Nat} {σ : Nat → Int → Int} {n : Int} {Y1 Y2 : ax_Y} {d1 d2 k1 n1 : Nat} {as : List ax_V} {v : ax_V} {σ1 : Nat → Int → Int} (M : axMo T N R o) (e : I = mx o I σ) (hc : axM G Y1 d1 (vR a :: as) T N I R z k1 n1 (rPX G T N I R z a o v σ1)) (hi : INV σ1 o n) (hm : ∀ (T1 : Nat → Nat) (N1 : Nat → Int) (I1 : Nat → Int → Int) (R1 : Nat → Int → Option Nat) (z1 : Nat), axMo T1 N1 R1 o → I1 = mx o I1 σ → MEn G Y2 d2 o as T1 N1 I1 R1 z1 v σ1) : PRC G Y1 Y2 d1 d2 k1 n1 as T N I R z a o n v := by
  refine axM.weaken hc (fun r1 T1 N1 I1 R1 z1 q => ?_)
  obtain ⟨q1, q2, q3, A1, w1, q4⟩ := q
  have M1 := mo_fro M q2
  refine ⟨q1, M1.1, axM.weaken (hm T1 N1 I1 R1 z1 M1 (mx_fro e q2)) (fun r2 T2 N2 I2 R2 z2 p => ?_)⟩
  obtain ⟨p1, rfl, rfl, rfl, rfl, p2, p3, p4⟩ := p
  exact ⟨p1, axLP_lv M1 q4 hi p2 p3 p4⟩
theorem me_S {G : ax_G} {Y2 : ax_Y} {d2 o : Nat} {as : List ax_V} {T1 : Nat → Nat} {N1 : Nat → Int} {I1 X σ1 : Nat → Int → Int} {R1 : Nat → Int → Option Nat} {z1 : Nat} {v v2 : ax_V} (h : axEx G Y2 d2 (vR o :: as) T1 N1 I1 R1 z1 (fun r J => r = some v2 ∧ scr X J o)) (ev : v2 = v) (eX : X = mx o I1 σ1) (hl : lnOk σ1 o) : MEn G Y2 d2 o as T1 N1 I1 R1 z1 v σ1 := by
  refine axM.weaken h (fun r2 T2 N2 I2 R2 z2 q => ?_)
  obtain ⟨⟨q1, q2⟩, q3, q4, q5, q6⟩ := q
  rw [eX] at q2
  refine ⟨by rw [q1, ev], q3, q4, q5, q6, q2.lvE, ?_, q2.outE⟩
  unfold lnOk
  rw [q2.1 (o + 5) (by omega) (by omega), q2.1 (o + 6) (by omega) (by omega), mx_5, mx_6]
  exact hl
theorem me_E {G : ax_G} {Y2 : ax_Y} {d2 o : Nat} {as : List ax_V} {T1 : Nat → Nat} {N1 : Nat → Int} {I1 X σ1 : Nat → Int → Int} {R1 : Nat → Int → Option Nat} {z1 : Nat} {v v2 : ax_V} (h : axE G Y2 d2 (vR o :: as) T1 N1 I1 R1 z1 (some v2) X) (ev : v2 = v) (eX : X = mx o I1 σ1) (hl : lnOk σ1 o) : MEn G Y2 d2 o as T1 N1 I1 R1 z1 v σ1 :=
  me_S (X := X) (axEx.weaken (axEx.of h) (fun r J q => ⟨q.1, by rw [q.2]; exact scr.rf⟩)) ev eX hl
theorem me_F {G : ax_G} {Y2 : ax_Y} {d2 o : Nat} {as : List ax_V} {T1 : Nat → Nat} {N1 : Nat → Int} {I1 σ1 : Nat → Int → Int} {R1 : Nat → Int → Option Nat} {z1 : Nat} {v v2 : ax_V} (h : axEx G Y2 d2 (vR o :: as) T1 N1 I1 R1 z1 (fun r J => r = some v2 ∧ J = I1)) (ev : v2 = v) (eX : I1 = mx o I1 σ1) (hl : lnOk σ1 o) : MEn G Y2 d2 o as T1 N1 I1 R1 z1 v σ1 :=
  me_S (X := I1) (axEx.weaken h (fun r J q => ⟨q.1, by rw [q.2]; exact scr.rf⟩)) ev eX hl
theorem me_L {G : ax_G} {Y2 : ax_Y} {d2 o : Nat} {as : List ax_V} {T1 : Nat → Nat} {N1 : Nat → Int} {I1 X σ1 : Nat → Int → Int} {R1 : Nat → Int → Option Nat} {z1 : Nat} {v v2 : ax_V} (h : axEx G Y2 d2 (vR o :: as) T1 N1 I1 R1 z1 (fun r J => r = some v2 ∧ lvE X J o ∧ lnOk J o ∧ outE X J o)) (ev : v2 = v) (eX : X = mx o I1 σ1) : MEn G Y2 d2 o as T1 N1 I1 R1 z1 v σ1 := by
  refine axM.weaken h (fun r2 T2 N2 I2 R2 z2 q => ?_)
  obtain ⟨⟨q1, q2, q7, q8⟩, q3, q4, q5, q6⟩ := q
  rw [eX] at q2 q8
  exact ⟨by rw [q1, ev], q3, q4, q5, q6, q2, q7, q8⟩

theorem pr_commit {G : ax_G} {T : Nat → Nat} {N : Nat → Int} {I : Nat → Int → Int} {R : Nat → Int → Option Nat} {z a o : Nat} {σ : Nat → Int → Int} {A w : Int → Nat} {n : Int} (M : axMo T N R o) (h : RelA G T N I R z a o σ A w) (hi : INV σ o n) (e : I = mx o I σ) (hn : n ≤ 2000000) {x1 : Int} (hx1 : ax_r x1) {x2 : Int} (hx2 : ax_r x2) {x3 : Int} (hx3 : ax_r x3) : ∃ v : Int, PRC G YX11_commit YX12_commit 5 3 2 22 [vI x1, vI x2, vI x3] T N I R z a o (n + 25) (vI v) := by
  have hk : INV (cm σ o x1 x2 x3).2 o (n + 25) := (iv_cm hi)
  refine ⟨(cm σ o x1 x2 x3).1, pr_mk M e (c_commit h (iv_C hi) (iv_S hi) (iv_rp hi) hx1 hx2 hx3) hk (fun T1 N1 I1 R1 z1 M1 e1 => ?_)⟩
  have hj : INV I1 o n := iv_e e1 hi
  have es : cm I1 o x1 x2 x3 = mxP o I1 (cm σ o x1 x2 x3) := by have h9 : cm (mx o I1 σ) o x1 x2 x3 = mxP o I1 (cm σ o x1 x2 x3) := cm_mx; rw [← e1] at h9; exact h9
  exact me_E (m_commit M1 (iv_C hj).1 (iv_S hj) (iv_40 hj) hx1 hx2 hx3) (by rw [es]; rfl) (by rw [es]; rfl) (iv_C hk).2.1

theorem pr_ofCommit {G : ax_G} {T : Nat → Nat} {N : Nat → Int} {I : Nat → Int → Int} {R : Nat → Int → Option Nat} {z a o : Nat} {σ : Nat → Int → Int} {A w : Int → Nat} {n : Int} (M : axMo T N R o) (h : RelA G T N I R z a o σ A w) (hi : INV σ o n) (e : I = mx o I σ) (hn : n ≤ 2000000) {x1 : Int} (hx1 : ax_r x1) {x2 : Int} (hx2 : ax_r x2) : ∃ v : Int, PRC G YX11_ofCommit YX12_ofCommit 4 4 0 0 [vI x1, vI x2] T N I R z a o (n + 25) (vI v) := by
  have hk : INV σ o (n + 25) := (iv_up hi (by omega))
  refine ⟨(ofR σ o x1 x2), pr_mk M e (rd_px h (c_ofCommit h (iv_C hi) (iv_0 hi) hx1 hx2)) hk (fun T1 N1 I1 R1 z1 M1 e1 => ?_)⟩
  have hj : INV I1 o n := iv_e e1 hi
  have es : ofR I1 o x1 x2 = ofR σ o x1 x2 := by have h9 : ofR (mx o I1 σ) o x1 x2 = ofR σ o x1 x2 := ofR_mx; rw [← e1] at h9; exact h9
  exact me_S (m_ofCommit M1 (iv_C hj) hx1 hx2) (by rw [es]) e1 (iv_C hi).2.1

theorem pr_piece {G : ax_G} {T : Nat → Nat} {N : Nat → Int} {I : Nat → Int → Int} {R : Nat → Int → Option Nat} {z a o : Nat} {σ : Nat → Int → Int} {A w : Int → Nat} {n : Int} (M : axMo T N R o) (h : RelA G T N I R z a o σ A w) (hi : INV σ o n) (e : I = mx o I σ) (hn : n ≤ 2000000) {x1 : Int} (hx1 : ax_r x1) {x2 : Int} (hx2 : ax_r x2) {x3 : Int} (hx3 : ax_r x3) : ∃ v : Int, PRC G YX11_piece YX12_piece 4 4 0 0 [vI x1, vI x2, vI x3] T N I R z a o (n + 25) (vI v) := by
  have hk : INV σ o (n + 25) := (iv_up hi (by omega))
  refine ⟨(pcR σ o x1 x2 x3), pr_mk M e (rd_px h (c_piece h (iv_C hi) (iv_0 hi) hx1 hx2 hx3)) hk (fun T1 N1 I1 R1 z1 M1 e1 => ?_)⟩
  have hj : INV I1 o n := iv_e e1 hi
  have es : pcR I1 o x1 x2 x3 = pcR σ o x1 x2 x3 := by have h9 : pcR (mx o I1 σ) o x1 x2 x3 = pcR σ o x1 x2 x3 := pcR_mx; rw [← e1] at h9; exact h9
  exact me_S (m_piece M1 (iv_C hj) hx1 hx2 hx3) (by rw [es]) e1 (iv_C hi).2.1

theorem pr_mark {G : ax_G} {T : Nat → Nat} {N : Nat → Int} {I : Nat → Int → Int} {R : Nat → Int → Option Nat} {z a o : Nat} {σ : Nat → Int → Int} {A w : Int → Nat} {n : Int} (M : axMo T N R o) (h : RelA G T N I R z a o σ A w) (hi : INV σ o n) (e : I = mx o I σ) (hn : n ≤ 2000000) {x1 : Int} (hx1 : ax_r x1) : ∃ v : Int, PRC G YX11_mark YX12_mark 4 4 0 0 [vI x1] T N I R z a o (n + 25) (vI v) := by
  have hk : INV σ o (n + 25) := (iv_up hi (by omega))
  refine ⟨(mkR σ o x1), pr_mk M e (rd_px h (c_mark h (iv_C hi) (iv_0 hi) hx1)) hk (fun T1 N1 I1 R1 z1 M1 e1 => ?_)⟩
  have hj : INV I1 o n := iv_e e1 hi
  have es : mkR I1 o x1 = mkR σ o x1 := by have h9 : mkR (mx o I1 σ) o x1 = mkR σ o x1 := mkR_mx; rw [← e1] at h9; exact h9
  exact me_S (m_mark M1 (iv_C hj) hx1) (by rw [es]) e1 (iv_C hi).2.1

theorem pr_alike {G : ax_G} {T : Nat → Nat} {N : Nat → Int} {I : Nat → Int → Int} {R : Nat → Int → Option Nat} {z a o : Nat} {σ : Nat → Int → Int} {A w : Int → Nat} {n : Int} (M : axMo T N R o) (h : RelA G T N I R z a o σ A w) (hi : INV σ o n) (e : I = mx o I σ) (hn : n ≤ 2000000) {x1 : Int} (hx1 : ax_r x1) {x2 : Int} (hx2 : ax_r x2) : ∃ v : Int, PRC G YX11_alike YX12_alike 4 6 0 0 [vI x1, vI x2] T N I R z a o (n + 25) (vI v) := by
  have hk : INV σ o (n + 25) := (iv_up hi (by omega))
  refine ⟨(alR σ o x1 x2), pr_mk M e (rd_px h (c_alike h (iv_C hi) (iv_0 hi) hx1 hx2)) hk (fun T1 N1 I1 R1 z1 M1 e1 => ?_)⟩
  have hj : INV I1 o n := iv_e e1 hi
  have es : alR I1 o x1 x2 = alR σ o x1 x2 := by have h9 : alR (mx o I1 σ) o x1 x2 = alR σ o x1 x2 := alR_mx; rw [← e1] at h9; exact h9
  exact me_S (m_alike M1 (iv_C hj) hx1 hx2) (by rw [es]) e1 (iv_C hi).2.1

theorem pr_fork {G : ax_G} {T : Nat → Nat} {N : Nat → Int} {I : Nat → Int → Int} {R : Nat → Int → Option Nat} {z a o : Nat} {σ : Nat → Int → Int} {A w : Int → Nat} {n : Int} (M : axMo T N R o) (h : RelA G T N I R z a o σ A w) (hi : INV σ o n) (e : I = mx o I σ) (hn : n ≤ 2000000) {x1 : Int} (hx1 : ax_r x1) {x2 : Int} (hx2 : ax_r x2) : ∃ v : Int, PRC G YX11_fork YX12_fork 2 2 0 0 [vI x1, vI x2] T N I R z a o (n + 25) (vI v) := by
  have hk : INV σ o (n + 25) := (iv_up hi (by omega))
  refine ⟨(fkR σ o x1 x2), pr_mk M e (rd_px h (c_fork h (iv_C hi) hx1 hx2)) hk (fun T1 N1 I1 R1 z1 M1 e1 => ?_)⟩
  have hj : INV I1 o n := iv_e e1 hi
  have es : fkR I1 o x1 x2 = fkR σ o x1 x2 := by have h9 : fkR (mx o I1 σ) o x1 x2 = fkR σ o x1 x2 := fkR_mx; rw [← e1] at h9; exact h9
  exact me_F (m_fork M1 (iv_C hj) hx1 hx2) (by rw [es]) e1 (iv_C hi).2.1

theorem pr_ahead {G : ax_G} {T : Nat → Nat} {N : Nat → Int} {I : Nat → Int → Int} {R : Nat → Int → Option Nat} {z a o : Nat} {σ : Nat → Int → Int} {A w : Int → Nat} {n : Int} (M : axMo T N R o) (h : RelA G T N I R z a o σ A w) (hi : INV σ o n) (e : I = mx o I σ) (hn : n ≤ 2000000) {x1 : Int} (hx1 : ax_r x1) {x2 : Int} (hx2 : ax_r x2) : ∃ v : Int, PRC G YX11_ahead YX12_ahead 2 2 0 0 [vI x1, vI x2] T N I R z a o (n + 25) (vI v) := by
  have hk : INV σ o (n + 25) := (iv_up hi (by omega))
  refine ⟨(ahR σ o x1 x2), pr_mk M e (rd_px h (c_ahead h (iv_C hi) hx1 hx2)) hk (fun T1 N1 I1 R1 z1 M1 e1 => ?_)⟩
  have hj : INV I1 o n := iv_e e1 hi
  have es : ahR I1 o x1 x2 = ahR σ o x1 x2 := by have h9 : ahR (mx o I1 σ) o x1 x2 = ahR σ o x1 x2 := ahR_mx; rw [← e1] at h9; exact h9
  exact me_F (m_ahead M1 (iv_C hj) hx1 hx2) (by rw [es]) e1 (iv_C hi).2.1

theorem pr_swaps {G : ax_G} {T : Nat → Nat} {N : Nat → Int} {I : Nat → Int → Int} {R : Nat → Int → Option Nat} {z a o : Nat} {σ : Nat → Int → Int} {A w : Int → Nat} {n : Int} (M : axMo T N R o) (h : RelA G T N I R z a o σ A w) (hi : INV σ o n) (e : I = mx o I σ) (hn : n ≤ 2000000) {x1 : Int} (hx1 : ax_r x1) : ∃ v : Int, PRC G YX11_swaps YX12_swaps 4 6 1 16 [vI x1] T N I R z a o (n + 25) (vI v) := by
  have hk : INV σ o (n + 25) := (iv_up hi (by omega))
  refine ⟨(swR σ o x1), pr_mk M e (c_swaps h (iv_C hi) (iv_R hi) hx1) hk (fun T1 N1 I1 R1 z1 M1 e1 => ?_)⟩
  have hj : INV I1 o n := iv_e e1 hi
  have es : swR I1 o x1 = swR σ o x1 := by have h9 : swR (mx o I1 σ) o x1 = swR σ o x1 := swR_mx; rw [← e1] at h9; exact h9
  exact me_L (m_swaps M1 (iv_C hj) (iv_R hj) hx1) (by rw [es]) e1

theorem pr_tip {G : ax_G} {T : Nat → Nat} {N : Nat → Int} {I : Nat → Int → Int} {R : Nat → Int → Option Nat} {z a o : Nat} {σ : Nat → Int → Int} {A w : Int → Nat} {n : Int} (M : axMo T N R o) (h : RelA G T N I R z a o σ A w) (hi : INV σ o n) (e : I = mx o I σ) (hn : n ≤ 2000000) {x1 : Int} (hx1 : ax_r x1) : ∃ v : Int, PRC G YX11_tip YX12_tip 1 2 0 0 [vI x1] T N I R z a o (n + 25) (vI v) := by
  have hk : INV σ o (n + 25) := (iv_up hi (by omega))
  refine ⟨(tpR σ o x1), pr_mk M e (rd_px h (c_tip h (iv_C hi) hx1)) hk (fun T1 N1 I1 R1 z1 M1 e1 => ?_)⟩
  have hj : INV I1 o n := iv_e e1 hi
  have es : tpR I1 o x1 = tpR σ o x1 := by have h9 : tpR (mx o I1 σ) o x1 = tpR σ o x1 := tpR_mx; rw [← e1] at h9; exact h9
  exact me_E (m_tip M1  hx1) (by rw [es]) e1 (iv_C hi).2.1

theorem pr_point {G : ax_G} {T : Nat → Nat} {N : Nat → Int} {I : Nat → Int → Int} {R : Nat → Int → Option Nat} {z a o : Nat} {σ : Nat → Int → Int} {A w : Int → Nat} {n : Int} (M : axMo T N R o) (h : RelA G T N I R z a o σ A w) (hi : INV σ o n) (e : I = mx o I σ) (hn : n ≤ 2000000) {x1 : Int} (hx1 : ax_r x1) {x2 : Int} (hx2 : ax_r x2) : ∃ v : Int, PRC G YX11_point YX12_point 1 2 0 0 [vI x1, vI x2] T N I R z a o (n + 25) (vI v) := by
  have hk : INV (ptI σ o x1 x2) o (n + 25) := (iv_up (iv_pt hi) (by omega))
  refine ⟨(ptR σ o x1 x2), pr_mk M e (c_point h (iv_C hi) (iv_rp hi) hx1 hx2) hk (fun T1 N1 I1 R1 z1 M1 e1 => ?_)⟩
  have hj : INV I1 o n := iv_e e1 hi
  have es : ptR I1 o x1 x2 = ptR σ o x1 x2 := by have h9 : ptR (mx o I1 σ) o x1 x2 = ptR σ o x1 x2 := ptR_mx; rw [← e1] at h9; exact h9
  have ei : ptI I1 o x1 x2 = mx o I1 (ptI σ o x1 x2) := by have h9 : ptI (mx o I1 σ) o x1 x2 = mx o I1 (ptI σ o x1 x2) := ptI_mx; rw [← e1] at h9; exact h9
  exact me_E (m_point M1 ⟨by have := (iv_C hj).1; omega, (iv_C hj).1.2⟩ (iv_40 hj) hx1 hx2) (by rw [es]) ei (iv_C hk).2.1

theorem pr_anew {G : ax_G} {T : Nat → Nat} {N : Nat → Int} {I : Nat → Int → Int} {R : Nat → Int → Option Nat} {z a o : Nat} {σ : Nat → Int → Int} {A w : Int → Nat} {n : Int} (M : axMo T N R o) (h : RelA G T N I R z a o σ A w) (hi : INV σ o n) (e : I = mx o I σ) (hn : n ≤ 2000000) : ∃ v : Int, PRC G YX11_anew YX12_anew 6 2 1 6 [] T N I R z a o (n + 25) (vI v) := by
  have hk : INV (an σ o).2 o (n + 25) := (iv_an hi)
  refine ⟨(an σ o).1, pr_mk M e (c_anew h (iv_C hi) (iv_S hi) (iv_rp hi) ) hk (fun T1 N1 I1 R1 z1 M1 e1 => ?_)⟩
  have hj : INV I1 o n := iv_e e1 hi
  have es : an I1 o = mxP o I1 (an σ o) := by have h9 : an (mx o I1 σ) o = mxP o I1 (an σ o) := an_mx; rw [← e1] at h9; exact h9
  exact me_E (m_anew M1 (iv_40 hj) ) (by rw [es]; rfl) (by rw [es]; rfl) (iv_C hk).2.1

theorem pr_merge {G : ax_G} {T : Nat → Nat} {N : Nat → Int} {I : Nat → Int → Int} {R : Nat → Int → Option Nat} {z a o : Nat} {σ : Nat → Int → Int} {A w : Int → Nat} {n : Int} (M : axMo T N R o) (h : RelA G T N I R z a o σ A w) (hi : INV σ o n) (e : I = mx o I σ) (hn : n ≤ 2000000) {x1 : Int} (hx1 : ax_r x1) {x2 : Int} (hx2 : ax_r x2) {x3 : Int} (hx3 : ax_r x3) {x4 : Int} (hx4 : ax_r x4) : ∃ v : Int, PRC G YX11_merge YX12_merge 4 6 0 0 [vI x1, vI x2, vI x3, vI x4] T N I R z a o (n + 25) (vI v) := by
  have hk : INV σ o (n + 25) := (iv_up hi (by omega))
  refine ⟨(mgR σ o x1 x2 x3 x4), pr_mk M e (rd_px h (c_merge h (iv_C hi) (iv_R hi) hx1 hx2 hx3 hx4)) hk (fun T1 N1 I1 R1 z1 M1 e1 => ?_)⟩
  have hj : INV I1 o n := iv_e e1 hi
  have es : mgR I1 o x1 x2 x3 x4 = mgR σ o x1 x2 x3 x4 := by have h9 : mgR (mx o I1 σ) o x1 x2 x3 x4 = mgR σ o x1 x2 x3 x4 := mgR_mx; rw [← e1] at h9; exact h9
  exact me_S (m_merge M1 (iv_C hj) (iv_R hj) hx1 hx2 hx3 hx4) (by rw [es]) e1 (iv_C hi).2.1

theorem pr_resolution {G : ax_G} {T : Nat → Nat} {N : Nat → Int} {I : Nat → Int → Int} {R : Nat → Int → Option Nat} {z a o : Nat} {σ : Nat → Int → Int} {A w : Int → Nat} {n : Int} (M : axMo T N R o) (h : RelA G T N I R z a o σ A w) (hi : INV σ o n) (e : I = mx o I σ) (hn : n ≤ 2000000) {x1 : Int} (hx1 : ax_r x1) {x2 : Int} (hx2 : ax_r x2) : ∃ v : Int, PRC G YX11_resolution YX12_resolution 1 1 0 0 [vI x1, vI x2] T N I R z a o (n + 25) (vI v) := by
  have hk : INV σ o (n + 25) := (iv_up hi (by omega))
  refine ⟨(reR σ o x1 x2), pr_mk M e (rd_px h (c_resolution h (iv_C hi) (iv_R hi) hx1 hx2)) hk (fun T1 N1 I1 R1 z1 M1 e1 => ?_)⟩
  have hj : INV I1 o n := iv_e e1 hi
  have es : reR I1 o x1 x2 = reR σ o x1 x2 := by have h9 : reR (mx o I1 σ) o x1 x2 = reR σ o x1 x2 := reR_mx; rw [← e1] at h9; exact h9
  exact me_E (m_resolution M1 (iv_R hj) hx1 hx2) (by rw [es]) e1 (iv_C hi).2.1

theorem pr_forget {G : ax_G} {T : Nat → Nat} {N : Nat → Int} {I : Nat → Int → Int} {R : Nat → Int → Option Nat} {z a o : Nat} {σ : Nat → Int → Int} {A w : Int → Nat} {n : Int} (M : axMo T N R o) (h : RelA G T N I R z a o σ A w) (hi : INV σ o n) (e : I = mx o I σ) (hn : n ≤ 2000000) {x1 : Int} (hx1 : ax_r x1) : ∃ v : Int, PRC G YX11_forget YX12_forget 1 1 0 0 [vI x1] T N I R z a o (n + 25) (vI v) := by
  have hk : INV (fg σ o x1).2 o (n + 25) := (iv_up (iv_fg hi) (by omega))
  refine ⟨(fg σ o x1).1, pr_mk M e (c_forget h (iv_C hi) (iv_R hi) hx1) hk (fun T1 N1 I1 R1 z1 M1 e1 => ?_)⟩
  have hj : INV I1 o n := iv_e e1 hi
  have es : fg I1 o x1 = mxP o I1 (fg σ o x1) := by have h9 : fg (mx o I1 σ) o x1 = mxP o I1 (fg σ o x1) := fg_mx; rw [← e1] at h9; exact h9
  exact me_E (m_forget M1 (iv_R hj).1 hx1) (by rw [es]; rfl) (by rw [es]; rfl) (iv_C hk).2.1

theorem pr_replay {G : ax_G} {T : Nat → Nat} {N : Nat → Int} {I : Nat → Int → Int} {R : Nat → Int → Option Nat} {z a o : Nat} {σ : Nat → Int → Int} {A w : Int → Nat} {n : Int} (M : axMo T N R o) (h : RelA G T N I R z a o σ A w) (hi : INV σ o n) (e : I = mx o I σ) (hn : n ≤ 2000000) {x1 : Int} (hx1 : ax_r x1) {x2 : Int} (hx2 : ax_r x2) : ∃ v : Int, PRC G YX11_replay YX12_replay 8 8 48 528 [vI x1, vI x2] T N I R z a o (n + 25) (vI v) := by
  have hk : INV (rpl σ o x1 x2).2 o (n + 25) := (iv_rpl hi)
  refine ⟨(rpl σ o x1 x2).1, pr_mk M e (c_replay h (iv_C hi) (iv_R hi) (iv_S hi) (iv_rp hi) (iv_0 hi) hx1 hx2) hk (fun T1 N1 I1 R1 z1 M1 e1 => ?_)⟩
  have hj : INV I1 o n := iv_e e1 hi
  have es : rpl I1 o x1 x2 = mxP o I1 (rpl σ o x1 x2) := by have h9 : rpl (mx o I1 σ) o x1 x2 = mxP o I1 (rpl σ o x1 x2) := rpl_mx; rw [← e1] at h9; exact h9
  exact me_S (m_replay M1 (iv_C hj) (iv_R hj) (iv_40 hj) hx1 hx2) (by rw [es]; rfl) (by rw [es]; rfl) (iv_C hk).2.1

theorem pr_go {G : ax_G} {T : Nat → Nat} {N : Nat → Int} {I : Nat → Int → Int} {R : Nat → Int → Option Nat} {z a o : Nat} {σ : Nat → Int → Int} {A w : Int → Nat} {n : Int} (M : axMo T N R o) (h : RelA G T N I R z a o σ A w) (hi : INV σ o n) (e : I = mx o I σ) (hn : n ≤ 2000000) : ∃ v : Int, PRC G YX11_go YX12_go 8 8 48 528 [] T N I R z a o (n + 25) (vI v) := by
  have hk : INV (goR σ o).2 o (n + 25) := (iv_go hi)
  refine ⟨(goR σ o).1, pr_mk M e (c_go h (iv_rp hi) (iv_hc hi) ) hk (fun T1 N1 I1 R1 z1 M1 e1 => ?_)⟩
  have hj : INV I1 o n := iv_e e1 hi
  have es : goR I1 o = mxP o I1 (goR σ o) := by have h9 : goR (mx o I1 σ) o = mxP o I1 (goR σ o) := goR_mx; rw [← e1] at h9; exact h9
  exact me_S (m_go M1 (iv_C hj) (iv_R hj) (iv_rp hj) ) (by rw [es]; rfl) (by rw [es]; rfl) (iv_C hk).2.1

theorem pr_skip {G : ax_G} {T : Nat → Nat} {N : Nat → Int} {I : Nat → Int → Int} {R : Nat → Int → Option Nat} {z a o : Nat} {σ : Nat → Int → Int} {A w : Int → Nat} {n : Int} (M : axMo T N R o) (h : RelA G T N I R z a o σ A w) (hi : INV σ o n) (e : I = mx o I σ) (hn : n ≤ 2000000) : ∃ v : Int, PRC G YX11_skip YX12_skip 8 8 48 528 [] T N I R z a o (n + 25) (vI v) := by
  have hk : INV (skR σ o).2 o (n + 25) := (iv_sk hi)
  refine ⟨(skR σ o).1, pr_mk M e (c_skip h (iv_rp hi) (iv_hc hi) ) hk (fun T1 N1 I1 R1 z1 M1 e1 => ?_)⟩
  have hj : INV I1 o n := iv_e e1 hi
  have es : skR I1 o = mxP o I1 (skR σ o) := by have h9 : skR (mx o I1 σ) o = mxP o I1 (skR σ o) := skR_mx; rw [← e1] at h9; exact h9
  exact me_S (m_skip M1 (iv_C hj) (iv_R hj) (iv_rp hj) ) (by rw [es]; rfl) (by rw [es]; rfl) (iv_C hk).2.1

theorem pr_abort {G : ax_G} {T : Nat → Nat} {N : Nat → Int} {I : Nat → Int → Int} {R : Nat → Int → Option Nat} {z a o : Nat} {σ : Nat → Int → Int} {A w : Int → Nat} {n : Int} (M : axMo T N R o) (h : RelA G T N I R z a o σ A w) (hi : INV σ o n) (e : I = mx o I σ) (hn : n ≤ 2000000) : ∃ v : Int, PRC G YX11_abort YX12_abort 2 1 0 0 [] T N I R z a o (n + 25) (vI v) := by
  have hk : INV (abR σ o).2 o (n + 25) := (iv_up (iv_ab hi) (by omega))
  refine ⟨(abR σ o).1, pr_mk M e (c_abort h (iv_C hi) (iv_S hi) (iv_rp hi) (iv_K hi) ) hk (fun T1 N1 I1 R1 z1 M1 e1 => ?_)⟩
  have hj : INV I1 o n := iv_e e1 hi
  have es : abR I1 o = mxP o I1 (abR σ o) := by have h9 : abR (mx o I1 σ) o = mxP o I1 (abR σ o) := abR_mx; rw [← e1] at h9; exact h9
  exact me_E (m_abort M1 (iv_40 hj) ) (by rw [es]; rfl) (by rw [es]; rfl) (iv_C hk).2.1

theorem pr_status {G : ax_G} {T : Nat → Nat} {N : Nat → Int} {I : Nat → Int → Int} {R : Nat → Int → Option Nat} {z a o : Nat} {σ : Nat → Int → Int} {A w : Int → Nat} {n : Int} (M : axMo T N R o) (h : RelA G T N I R z a o σ A w) (hi : INV σ o n) (e : I = mx o I σ) (hn : n ≤ 2000000) {x1 : Int} (hx1 : ax_r x1) : ∃ v : Int, PRC G YX11_status YX12_status 5 7 0 0 [vI x1] T N I R z a o (n + 25) (vI v) := by
  have hk : INV σ o (n + 25) := (iv_up hi (by omega))
  refine ⟨(stR σ o x1), pr_mk M e (rd_px h (c_status h (iv_C hi) (iv_R hi) (iv_rp hi) hx1)) hk (fun T1 N1 I1 R1 z1 M1 e1 => ?_)⟩
  have hj : INV I1 o n := iv_e e1 hi
  have es : stR I1 o x1 = stR σ o x1 := by have h9 : stR (mx o I1 σ) o x1 = stR σ o x1 := stR_mx; rw [← e1] at h9; exact h9
  exact me_S (m_status M1 (iv_C hj) (iv_R hj) (iv_rp hj) hx1) (by rw [es]) e1 (iv_C hi).2.1

theorem pr_conflict {G : ax_G} {T : Nat → Nat} {N : Nat → Int} {I : Nat → Int → Int} {R : Nat → Int → Option Nat} {z a o : Nat} {σ : Nat → Int → Int} {A w : Int → Nat} {n : Int} (M : axMo T N R o) (h : RelA G T N I R z a o σ A w) (hi : INV σ o n) (e : I = mx o I σ) (hn : n ≤ 2000000) {x1 : Int} (hx1 : ax_r x1) {x2 : Int} (hx2 : ax_r x2) : ∃ v : Int, PRC G YX11_conflict YX12_conflict 6 8 0 0 [vI x1, vI x2] T N I R z a o (n + 25) (vI v) := by
  have hk : INV σ o (n + 25) := (iv_up hi (by omega))
  refine ⟨(cfR σ o x1 x2), pr_mk M e (rd_px h (c_conflict h (iv_C hi) (iv_R hi) (iv_rp hi) hx1 hx2)) hk (fun T1 N1 I1 R1 z1 M1 e1 => ?_)⟩
  have hj : INV I1 o n := iv_e e1 hi
  have es : cfR I1 o x1 x2 = cfR σ o x1 x2 := by have h9 : cfR (mx o I1 σ) o x1 x2 = cfR σ o x1 x2 := cfR_mx; rw [← e1] at h9; exact h9
  exact me_S (m_conflict M1 (iv_C hj) (iv_R hj) (iv_rp hj) hx1 hx2) (by rw [es]) e1 (iv_C hi).2.1

theorem pr_settle {G : ax_G} {T : Nat → Nat} {N : Nat → Int} {I : Nat → Int → Int} {R : Nat → Int → Option Nat} {z a o : Nat} {σ : Nat → Int → Int} {A w : Int → Nat} {n : Int} (M : axMo T N R o) (h : RelA G T N I R z a o σ A w) (hi : INV σ o n) (e : I = mx o I σ) (hn : n ≤ 2000000) {x1 : Int} (hx1 : ax_r x1) {x2 : Int} (hx2 : ax_r x2) : ∃ v : Int, PRC G YX11_settle YX12_settle 6 8 3 59 [vI x1, vI x2] T N I R z a o (n + 25) (vI v) := by
  have hk : INV (stl σ o x1 x2).2 o (n + 25) := (iv_up (iv_stl hi) (by omega))
  refine ⟨(stl σ o x1 x2).1, pr_mk M e (c_settle h (iv_C hi) (iv_R hi) (iv_S hi) (iv_rp hi) hx1 hx2) hk (fun T1 N1 I1 R1 z1 M1 e1 => ?_)⟩
  have hj : INV I1 o n := iv_e e1 hi
  have es : stl I1 o x1 x2 = mxP o I1 (stl σ o x1 x2) := by have h9 : stl (mx o I1 σ) o x1 x2 = mxP o I1 (stl σ o x1 x2) := stl_mx; rw [← e1] at h9; exact h9
  exact me_S (m_settle M1 (iv_C hj) (iv_R hj) (iv_S hj) (iv_rp hj) hx1 hx2) (by rw [es]; rfl) (by rw [es]; rfl) (iv_C hk).2.1

theorem pr_foretell {G : ax_G} {T : Nat → Nat} {N : Nat → Int} {I : Nat → Int → Int} {R : Nat → Int → Option Nat} {z a o : Nat} {σ : Nat → Int → Int} {A w : Int → Nat} {n : Int} (M : axMo T N R o) (h : RelA G T N I R z a o σ A w) (hi : INV σ o n) (e : I = mx o I σ) (hn : n ≤ 2000000) {x1 : Int} (hx1 : ax_r x1) {x2 : Int} (hx2 : ax_r x2) {x3 : Int} (hx3 : ax_r x3) : ∃ v : Int, PRC G YX11_foretell YX12_foretell 8 8 24 384 [vI x1, vI x2, vI x3] T N I R z a o (n + 25) (vI v) := by
  have hk : INV σ o (n + 25) := (iv_up hi (by omega))
  refine ⟨(ftR σ o x1 x2 x3), pr_mk M e (c_foretell h (iv_C hi) (iv_R hi) (iv_rp hi) (iv_0 hi) hx1 hx2 hx3) hk (fun T1 N1 I1 R1 z1 M1 e1 => ?_)⟩
  have hj : INV I1 o n := iv_e e1 hi
  have es : ftR I1 o x1 x2 x3 = ftR σ o x1 x2 x3 := by have h9 : ftR (mx o I1 σ) o x1 x2 x3 = ftR σ o x1 x2 x3 := ftR_mx; rw [← e1] at h9; exact h9
  exact me_L (m_foretell M1 (iv_C hj) (iv_R hj) (iv_40 hj) hx1 hx2 hx3) (by rw [es]) e1

theorem pr_blank {G : ax_G} {T : Nat → Nat} {N : Nat → Int} {I : Nat → Int → Int} {R : Nat → Int → Option Nat} {z a o : Nat} {σ : Nat → Int → Int} {A w : Int → Nat} {n : Int} (M : axMo T N R o) (h : RelA G T N I R z a o σ A w) (hi : INV σ o n) (e : I = mx o I σ) (hn : n ≤ 2000000) {x1 : Int} (hx1 : ax_r x1) {x2 : Int} (hx2 : ax_r x2) {x3 : Int} (hx3 : ax_r x3) : ∃ v : Int, PRC G YX11_blank YX12_blank 1 2 1 24 [vI x1, vI x2, vI x3] T N I R z a o (n + 25) (vI v) := by
  have hk : INV (bl σ o x1 x2 x3).2 o (n + 25) := (iv_up (iv_bl hi) (by omega))
  refine ⟨(bl σ o x1 x2 x3).1, pr_mk M e (c_blank h (iv_C hi) (iv_S hi) hx1 hx2 hx3) hk (fun T1 N1 I1 R1 z1 M1 e1 => ?_)⟩
  have hj : INV I1 o n := iv_e e1 hi
  have es : bl I1 o x1 x2 x3 = mxP o I1 (bl σ o x1 x2 x3) := by have h9 : bl (mx o I1 σ) o x1 x2 x3 = mxP o I1 (bl σ o x1 x2 x3) := bl_mx; rw [← e1] at h9; exact h9
  exact me_E (m_blank M1  hx1 hx2 hx3) (by rw [es]; rfl) (by rw [es]; rfl) (iv_C hk).2.1

theorem pr_show {G : ax_G} {T : Nat → Nat} {N : Nat → Int} {I : Nat → Int → Int} {R : Nat → Int → Option Nat} {z a o : Nat} {σ : Nat → Int → Int} {A w : Int → Nat} {n : Int} (M : axMo T N R o) (h : RelA G T N I R z a o σ A w) (hi : INV σ o n) (e : I = mx o I σ) (hn : n ≤ 2000000) {x1 : Int} (hx1 : ax_r x1) {x2 : Int} (hx2 : ax_r x2) : ∃ v : Int, PRC G YX11_show YX12_show 1 2 1 16 [vI x1, vI x2] T N I R z a o (n + 25) (vI v) := by
  have hk : INV (sh σ o x1 x2).2 o (n + 25) := (iv_up (iv_sh hi) (by omega))
  refine ⟨(sh σ o x1 x2).1, pr_mk M e (c_show h (iv_C hi) (iv_S hi) hx1 hx2) hk (fun T1 N1 I1 R1 z1 M1 e1 => ?_)⟩
  have hj : INV I1 o n := iv_e e1 hi
  have es : sh I1 o x1 x2 = mxP o I1 (sh σ o x1 x2) := by have h9 : sh (mx o I1 σ) o x1 x2 = mxP o I1 (sh σ o x1 x2) := sh_mx; rw [← e1] at h9; exact h9
  exact me_E (m_show M1 (iv_C hj).1 (iv_C hj).2.1 hx1 hx2) (by rw [es]; rfl) (by rw [es]; rfl) (iv_C hk).2.1

theorem pr_trail {G : ax_G} {T : Nat → Nat} {N : Nat → Int} {I : Nat → Int → Int} {R : Nat → Int → Option Nat} {z a o : Nat} {σ : Nat → Int → Int} {A w : Int → Nat} {n : Int} (M : axMo T N R o) (h : RelA G T N I R z a o σ A w) (hi : INV σ o n) (e : I = mx o I σ) (hn : n ≤ 2000000) {x1 : Int} (hx1 : ax_r x1) {x2 : Int} (hx2 : ax_r x2) : ∃ v : Int, PRC G YX11_trail YX12_trail 2 2 1 24 [vI x1, vI x2] T N I R z a o (n + 25) (vI v) := by
  have hk : INV (tl σ o x1 x2).2 o (n + 25) := (iv_up (iv_tl hi) (by omega))
  refine ⟨(tl σ o x1 x2).1, pr_mk M e (c_trail h (iv_C hi) (iv_S hi) hx1 hx2) hk (fun T1 N1 I1 R1 z1 M1 e1 => ?_)⟩
  have hj : INV I1 o n := iv_e e1 hi
  have es : tl I1 o x1 x2 = mxP o I1 (tl σ o x1 x2) := by have h9 : tl (mx o I1 σ) o x1 x2 = mxP o I1 (tl σ o x1 x2) := tl_mx; rw [← e1] at h9; exact h9
  exact me_E (m_trail M1 (iv_C hj) hx1 hx2) (by rw [es]; rfl) (by rw [es]; rfl) (iv_C hk).2.1

theorem pr_hold {G : ax_G} {T : Nat → Nat} {N : Nat → Int} {I : Nat → Int → Int} {R : Nat → Int → Option Nat} {z a o : Nat} {σ : Nat → Int → Int} {A w : Int → Nat} {n : Int} (M : axMo T N R o) (h : RelA G T N I R z a o σ A w) (hi : INV σ o n) (e : I = mx o I σ) (hn : n ≤ 2000000) {x1 : Int} (hx1 : ax_r x1) {x2 : Int} (hx2 : ax_r x2) : ∃ v : Int, PRC G YX11_hold YX12_hold 1 2 0 0 [vI x1, vI x2] T N I R z a o (n + 25) (vI v) := by
  have hk : INV (hd σ o x1 x2).2 o (n + 25) := (iv_up (iv_hd hi) (by omega))
  refine ⟨(hd σ o x1 x2).1, pr_mk M e (c_hold h (iv_C hi) (iv_S hi) hx1 hx2) hk (fun T1 N1 I1 R1 z1 M1 e1 => ?_)⟩
  have hj : INV I1 o n := iv_e e1 hi
  have es : hd I1 o x1 x2 = mxP o I1 (hd σ o x1 x2) := by have h9 : hd (mx o I1 σ) o x1 x2 = mxP o I1 (hd σ o x1 x2) := hd_mx; rw [← e1] at h9; exact h9
  exact me_E (m_hold M1 (iv_C hj).1 hx1 hx2) (by rw [es]; rfl) (by rw [es]; rfl) (iv_C hk).2.1

theorem pr_held {G : ax_G} {T : Nat → Nat} {N : Nat → Int} {I : Nat → Int → Int} {R : Nat → Int → Option Nat} {z a o : Nat} {σ : Nat → Int → Int} {A w : Int → Nat} {n : Int} (M : axMo T N R o) (h : RelA G T N I R z a o σ A w) (hi : INV σ o n) (e : I = mx o I σ) (hn : n ≤ 2000000) {x1 : Int} (hx1 : ax_r x1) : ∃ v : Int, PRC G YX11_held YX12_held 2 2 0 0 [vI x1] T N I R z a o (n + 25) (vI v) := by
  have hk : INV (he σ o x1).2 o (n + 25) := (iv_up (iv_he hi) (by omega))
  refine ⟨(he σ o x1).1, pr_mk M e (c_held h (iv_C hi) (iv_S hi) hx1) hk (fun T1 N1 I1 R1 z1 M1 e1 => ?_)⟩
  have hj : INV I1 o n := iv_e e1 hi
  have es : he I1 o x1 = mxP o I1 (he σ o x1) := by have h9 : he (mx o I1 σ) o x1 = mxP o I1 (he σ o x1) := he_mx; rw [← e1] at h9; exact h9
  exact me_E (m_held M1 (iv_C hj).1 (iv_S hj) (by have := iv_n hj; omega) hx1) (by rw [es]; rfl) (by rw [es]; rfl) (iv_C hk).2.1

theorem pr_as {G : ax_G} {T : Nat → Nat} {N : Nat → Int} {I : Nat → Int → Int} {R : Nat → Int → Option Nat} {z a o : Nat} {σ : Nat → Int → Int} {A w : Int → Nat} {n : Int} (M : axMo T N R o) (h : RelA G T N I R z a o σ A w) (hi : INV σ o n) (e : I = mx o I σ) (hn : n ≤ 2000000) {x1 : Int} (hx1 : ax_r x1) {x2 : Int} (hx2 : ax_r x2) : ∃ v : Int, PRC G YX11_as YX12_as 2 2 0 0 [vI x1, vI x2] T N I R z a o (n + 25) (vI v) := by
  have hk : INV (asR σ o x1 x2).2 o (n + 25) := (iv_up (iv_as hi) (by omega))
  refine ⟨(asR σ o x1 x2).1, pr_mk M e (c_as h (iv_C hi) hx1 hx2) hk (fun T1 N1 I1 R1 z1 M1 e1 => ?_)⟩
  have hj : INV I1 o n := iv_e e1 hi
  have es : asR I1 o x1 x2 = mxP o I1 (asR σ o x1 x2) := by have h9 : asR (mx o I1 σ) o x1 x2 = mxP o I1 (asR σ o x1 x2) := asR_mx; rw [← e1] at h9; exact h9
  exact me_E (m_as M1 (iv_S hj) hx1 hx2) (by rw [es]; rfl) (by rw [es]; rfl) (iv_C hk).2.1

theorem pr_lose {G : ax_G} {T : Nat → Nat} {N : Nat → Int} {I : Nat → Int → Int} {R : Nat → Int → Option Nat} {z a o : Nat} {σ : Nat → Int → Int} {A w : Int → Nat} {n : Int} (M : axMo T N R o) (h : RelA G T N I R z a o σ A w) (hi : INV σ o n) (e : I = mx o I σ) (hn : n ≤ 2000000) {x1 : Int} (hx1 : ax_r x1) : ∃ v : Int, PRC G YX11_lose YX12_lose 1 2 0 0 [vI x1] T N I R z a o (n + 25) (vI v) := by
  have hk : INV (lo σ o x1).2 o (n + 25) := (iv_up (iv_lo hi) (by omega))
  refine ⟨(lo σ o x1).1, pr_mk M e (c_lose h (iv_C hi) hx1) hk (fun T1 N1 I1 R1 z1 M1 e1 => ?_)⟩
  have hj : INV I1 o n := iv_e e1 hi
  have es : lo I1 o x1 = mxP o I1 (lo σ o x1) := by have h9 : lo (mx o I1 σ) o x1 = mxP o I1 (lo σ o x1) := lo_mx; rw [← e1] at h9; exact h9
  exact me_E (m_lose M1 (iv_S hj) hx1) (by rw [es]; rfl) (by rw [es]; rfl) (iv_C hk).2.1

theorem pr_write {G : ax_G} {T : Nat → Nat} {N : Nat → Int} {I : Nat → Int → Int} {R : Nat → Int → Option Nat} {z a o : Nat} {σ : Nat → Int → Int} {A w : Int → Nat} {n : Int} (M : axMo T N R o) (h : RelA G T N I R z a o σ A w) (hi : INV σ o n) (e : I = mx o I σ) (hn : n ≤ 2000000) {x1 : Int} (hx1 : ax_r x1) {x2 : Int} (hx2 : ax_r x2) {x3 : Int} (hx3 : ax_r x3) : ∃ v : Int, PRC G YX11_write YX12_write 2 2 0 0 [vI x1, vI x2, vI x3] T N I R z a o (n + 25) (vI v) := by
  have hk : INV (wr σ o x1 x2 x3).2 o (n + 25) := (iv_up (iv_wr hi hx3) (by omega))
  refine ⟨(wr σ o x1 x2 x3).1, pr_mk M e (c_write h (iv_C hi) (iv_S hi) hx1 hx2 hx3) hk (fun T1 N1 I1 R1 z1 M1 e1 => ?_)⟩
  have hj : INV I1 o n := iv_e e1 hi
  have es : wr I1 o x1 x2 x3 = mxP o I1 (wr σ o x1 x2 x3) := by have h9 : wr (mx o I1 σ) o x1 x2 x3 = mxP o I1 (wr σ o x1 x2 x3) := wr_mx; rw [← e1] at h9; exact h9
  exact me_E (m_write M1 (iv_S hj) hx1 hx2 hx3) (by rw [es]; rfl) (by rw [es]; rfl) (iv_C hk).2.1

theorem pr_number {G : ax_G} {T : Nat → Nat} {N : Nat → Int} {I : Nat → Int → Int} {R : Nat → Int → Option Nat} {z a o : Nat} {σ : Nat → Int → Int} {A w : Int → Nat} {n : Int} (M : axMo T N R o) (h : RelA G T N I R z a o σ A w) (hi : INV σ o n) (e : I = mx o I σ) (hn : n ≤ 2000000) {x1 : Int} (hx1 : ax_r x1) {x2 : Int} (hx2 : ax_r x2) : ∃ v : Int, PRC G YX11_number YX12_number 2 2 0 0 [vI x1, vI x2] T N I R z a o (n + 25) (vL v) := by
  have hk : INV (nu σ o x1 x2).2 o (n + 25) := (iv_up (iv_nu hi) (by omega))
  refine ⟨(nu σ o x1 x2).1, pr_mk M e (c_number h (iv_C hi) (iv_S hi) hx1 hx2) hk (fun T1 N1 I1 R1 z1 M1 e1 => ?_)⟩
  have hj : INV I1 o n := iv_e e1 hi
  have es : nu I1 o x1 x2 = mxP o I1 (nu σ o x1 x2) := by have h9 : nu (mx o I1 σ) o x1 x2 = mxP o I1 (nu σ o x1 x2) := nu_mx; rw [← e1] at h9; exact h9
  exact me_E (m_number M1 (iv_S hj) hx1 hx2) (by rw [es]; rfl) (by rw [es]; rfl) (iv_C hk).2.1

theorem pr_copy {G : ax_G} {T : Nat → Nat} {N : Nat → Int} {I : Nat → Int → Int} {R : Nat → Int → Option Nat} {z a o : Nat} {σ : Nat → Int → Int} {A w : Int → Nat} {n : Int} (M : axMo T N R o) (h : RelA G T N I R z a o σ A w) (hi : INV σ o n) (e : I = mx o I σ) (hn : n ≤ 2000000) {x1 : Int} (hx1 : ax_r x1) {x2 : Int} (hx2 : ax_r x2) {x3 : Int} (hx3 : ax_r x3) {x4 : Int} (hx4 : ax_r x4) {x5 : Int} (hx5 : ax_r x5) : ∃ v : Int, PRC G YX11_copy YX12_copy 1 2 0 0 [vI x1, vI x2, vI x3, vI x4, vI x5] T N I R z a o (n + 25) (vI v) := by
  have hk : INV (cp σ o x1 x2 x3 x4 x5).2 o (n + 25) := (iv_up (iv_cp hi) (by omega))
  refine ⟨(cp σ o x1 x2 x3 x4 x5).1, pr_mk M e (c_copy h (iv_C hi) (iv_S hi) hx1 hx2 hx3 hx4 hx5) hk (fun T1 N1 I1 R1 z1 M1 e1 => ?_)⟩
  have hj : INV I1 o n := iv_e e1 hi
  have es : cp I1 o x1 x2 x3 x4 x5 = mxP o I1 (cp σ o x1 x2 x3 x4 x5) := by have h9 : cp (mx o I1 σ) o x1 x2 x3 x4 x5 = mxP o I1 (cp σ o x1 x2 x3 x4 x5) := cp_mx; rw [← e1] at h9; exact h9
  exact me_E (m_copy M1 (iv_S hj) hx1 hx2 hx3 hx4 hx5) (by rw [es]; rfl) (by rw [es]; rfl) (iv_C hk).2.1

theorem pr_tell {G : ax_G} {T : Nat → Nat} {N : Nat → Int} {I : Nat → Int → Int} {R : Nat → Int → Option Nat} {z a o : Nat} {σ : Nat → Int → Int} {A w : Int → Nat} {n : Int} (M : axMo T N R o) (h : RelA G T N I R z a o σ A w) (hi : INV σ o n) (e : I = mx o I σ) (hn : n ≤ 2000000) {x1 : Int} (hx1 : ax_r x1) : ∃ v : Int, PRC G YX11_tell YX12_tell 3 2 0 0 [vI x1] T N I R z a o (n + 25) (vI v) := by
  have hk : INV (te σ o x1).2 o (n + 25) := (iv_up (iv_te hi) (by omega))
  refine ⟨(te σ o x1).1, pr_mk M e (c_tell h (iv_C hi) hx1) hk (fun T1 N1 I1 R1 z1 M1 e1 => ?_)⟩
  have hj : INV I1 o n := iv_e e1 hi
  have es : te I1 o x1 = mxP o I1 (te σ o x1) := by have h9 : te (mx o I1 σ) o x1 = mxP o I1 (te σ o x1) := te_mx; rw [← e1] at h9; exact h9
  exact me_E (m_tell M1 (iv_C hj) hx1) (by rw [es]; rfl) (by rw [es]; rfl) (iv_C hk).2.1

theorem pr_trace {G : ax_G} {T : Nat → Nat} {N : Nat → Int} {I : Nat → Int → Int} {R : Nat → Int → Option Nat} {z a o : Nat} {σ : Nat → Int → Int} {A w : Int → Nat} {n : Int} (M : axMo T N R o) (h : RelA G T N I R z a o σ A w) (hi : INV σ o n) (e : I = mx o I σ) (hn : n ≤ 2000000) : ∃ v : Int, PRC G YX11_trace YX12_trace 0 0 0 0 [] T N I R z a o (n + 25) (vI v) := by
  have hk : INV σ o (n + 25) := (iv_up hi (by omega))
  refine ⟨(σ o 1), pr_mk M e (rd_px h (c_trace h (iv_C hi) )) hk (fun T1 N1 I1 R1 z1 M1 e1 => ?_)⟩
  have hj : INV I1 o n := iv_e e1 hi
  have es : I1 o = σ o := by have h9 : mx o I1 σ o = σ o := mx_0; rw [← e1] at h9; exact h9
  exact me_E (m_trace M1  ) (by rw [es]) e1 (iv_C hi).2.1

theorem pr_fault {G : ax_G} {T : Nat → Nat} {N : Nat → Int} {I : Nat → Int → Int} {R : Nat → Int → Option Nat} {z a o : Nat} {σ : Nat → Int → Int} {A w : Int → Nat} {n : Int} (M : axMo T N R o) (h : RelA G T N I R z a o σ A w) (hi : INV σ o n) (e : I = mx o I σ) (hn : n ≤ 2000000) : ∃ v : Int, PRC G YX11_fault YX12_fault 0 0 0 0 [] T N I R z a o (n + 25) (vI v) := by
  have hk : INV σ o (n + 25) := (iv_up hi (by omega))
  refine ⟨(σ o 0), pr_mk M e (rd_px h (c_fault h (iv_C hi) )) hk (fun T1 N1 I1 R1 z1 M1 e1 => ?_)⟩
  have hj : INV I1 o n := iv_e e1 hi
  have es : I1 o = σ o := by have h9 : mx o I1 σ o = σ o := mx_0; rw [← e1] at h9; exact h9
  exact me_E (m_fault M1  ) (by rw [es]) e1 (iv_C hi).2.1

theorem pr_many {G : ax_G} {T : Nat → Nat} {N : Nat → Int} {I : Nat → Int → Int} {R : Nat → Int → Option Nat} {z a o : Nat} {σ : Nat → Int → Int} {A w : Int → Nat} {n : Int} (M : axMo T N R o) (h : RelA G T N I R z a o σ A w) (hi : INV σ o n) (e : I = mx o I σ) (hn : n ≤ 2000000) {x1 : Int} (hx1 : ax_r x1) : ∃ v : Int, PRC G YX11_many YX12_many 3 1 0 0 [vI x1] T N I R z a o (n + 25) (vI v) := by
  have hk : INV σ o (n + 25) := (iv_up hi (by omega))
  refine ⟨(mnR σ o x1), pr_mk M e (rd_px h (c_many h (iv_C hi) (iv_R hi) hx1)) hk (fun T1 N1 I1 R1 z1 M1 e1 => ?_)⟩
  have hj : INV I1 o n := iv_e e1 hi
  have es : mnR I1 o x1 = mnR σ o x1 := by have h9 : mnR (mx o I1 σ) o x1 = mnR σ o x1 := mnR_mx; rw [← e1] at h9; exact h9
  exact me_E (m_many M1 (iv_C hj) (iv_S hj) hx1) (by rw [es]) e1 (iv_C hi).2.1

