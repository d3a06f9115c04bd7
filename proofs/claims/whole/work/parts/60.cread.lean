/-! THE CLASS: calls that only read, 1 -/
section CW
variable {G : ax_G} {f : ax_F} {Y : ax_Y} {own : String} {d mc ms : Nat} {Q : ax_P} {pc : Nat} {L st : List ax_V} {T : Nat → Nat} {N : Nat → Int} {I : Nat → Int → Int} {R : Nat → Int → Option Nat} {z k n : Nat}
theorem ax_wrap {t : Int} (h : -4294967296 ≤ t ∧ t < 4294967296) : ∃ v, ax_r v ∧ Int32.ofInt v = Int32.ofInt t ∧ (v = t ∨ v = t + 4294967296 ∨ v = t - 4294967296) := by
  refine ⟨(Int32.ofInt t).toInt, ?_, Int32.ofInt_toInt _, ?_⟩
  · have h1 := Int32.le_toInt (Int32.ofInt t)
    have h2 := Int32.toInt_lt (Int32.ofInt t)
    constructor <;> omega
  · rw [Int32.toInt_ofInt]
    show Int.bmod t 4294967296 = t ∨ _
    rw [Int.bmod_def]
    split <;> omega
theorem x_isubW (hC : axC G f Y own d mc ms) {x y : Int} (hd : decode Y.2.1 pc = .ok (.isub, 1)) (hx : ax_r x) (hy : ax_r y) (kk : ∀ v, ax_r v → (v = x - y ∨ v = x - y + 4294967296 ∨ v = x - y - 4294967296) → axX G f mc ms Q (pc + 1) L (vI v :: st) T N I R z k n) : axX G f mc ms Q pc L (vI y :: vI x :: st) T N I R z k n := by
  obtain ⟨v, h1, h2, h3⟩ := ax_wrap (t := x - y) (by have := hx.1; have := hx.2; have := hy.1; have := hy.2; omega)
  exact axX.go (fun H locs ls cells slots Q0 hL k => lv_isub hC.1 hC.2.1 hd (by rw [← Int32.ofInt_sub, ← h2]; exact k ls hL)) (kk v h1 h3)
end CW
theorem chg_list {a b : Int → Int} {na nb : Int} (h0 : 0 ≤ na) (h1 : 0 ≤ nb) : chgL a b (pcsOf a b na nb) = chgOf (seg a 0 na) (seg b 0 nb) := by
  unfold chgOf
  have e : ∀ {f : Int → Int} {n : Int}, 0 ≤ n → (((seg f 0 n).length : Nat) : Int) = n := fun h => by rw [seg_len]; omega
  rw [e h0, e h1]
  have h2 := pcsOf_congr (a := a) (b := b) (fun k x y => (lf_seg x y).symm) (fun k x y => (lf_seg x y).symm) h1 h0
  rw [← h2]
  exact chgL_congr (fun k x y => (lf_seg x y).symm) (fun k x y => (lf_seg x y).symm) (pcsOf_ok h0 h1).1
theorem rl_row {G : ax_G} {T : Nat → Nat} {N : Nat → Int} {I : Nat → Int → Int} {R : Nat → Int → Option Nat} {z a o : Nat} {σ : Nat → Int → Int} {A w : Int → Nat} (h : RelA G T N I R z a o σ A w) {c : Int} (h0 : 0 ≤ c) (h1 : c < σ o 2) : seg (I (w c)) 0 (N (w c)) = rowL σ o c ∧ N (w c) = σ (o + 6) c := by
  obtain ⟨-, -, -, -, -, ⟨c1, c2⟩, -⟩ := rl_cc h c h0 h1
  exact ⟨by rw [c1]; exact c2, c1⟩
theorem rl_line {G : ax_G} {T : Nat → Nat} {N : Nat → Int} {I : Nat → Int → Int} {R : Nat → Int → Option Nat} {z a o : Nat} {σ : Nat → Int → Int} {A w : Int → Nat} (h : RelA G T N I R z a o σ A w) {c j : Int} (h0 : 0 ≤ c) (h1 : c < σ o 2) (h2 : 0 ≤ j) (h3 : j < σ (o + 6) c) : I (w c) j = σ (o + 5) (16 * c + j) := by
  obtain ⟨-, -, -, -, -, ⟨c1, c2⟩, -⟩ := rl_cc h c h0 h1
  have := (seg_eq (f := I (w c)) (g := rwI σ o c) (by omega) (by omega)).mp c2
  have h9 := this.2 j h2 (by omega)
  rw [Int.zero_add] at h9
  rw [h9]
theorem rl_at {G : ax_G} {T : Nat → Nat} {N : Nat → Int} {I : Nat → Int → Int} {R : Nat → Int → Option Nat} {z a o : Nat} {σ : Nat → Int → Int} {A w : Int → Nat} (h : RelA G T N I R z a o σ A w) (hI : miC σ o) {c : Int} (hc : 0 ≤ c ∧ c < σ o 2) : axE G YX11_commitAt 0 [vR a, vI c] T N I R z (some (vR (A c))) I := by
  have hn := rl_n h
  have h1 := hI.1
  have := c_commitAt (G := G) (I := I) (rl_fx h) (c := c) (by constructor <;> omega) (by omega)
  rw [if_pos (by omega), (rl_cc h c hc.1 hc.2).1] at this
  exact this
theorem rl_no {G : ax_G} {T : Nat → Nat} {N : Nat → Int} {I : Nat → Int → Int} {R : Nat → Int → Option Nat} {z a o : Nat} {σ : Nat → Int → Int} {A w : Int → Nat} (h : RelA G T N I R z a o σ A w) (hI : miC σ o) {c : Int} (hr : ax_r c) (hc : ¬ (0 ≤ c ∧ c < σ o 2)) : axE G YX11_commitAt 0 [vR a, vI c] T N I R z (some vN) I := by
  have hn := rl_n h
  have h1 := hI.1
  have := c_commitAt (G := G) (I := I) (rl_fx h) (c := c) hr (by omega)
  rw [if_neg (by omega)] at this
  exact this
theorem rl_tip {G : ax_G} {T : Nat → Nat} {N : Nat → Int} {I : Nat → Int → Int} {R : Nat → Int → Option Nat} {z a o : Nat} {σ : Nat → Int → Int} {A w : Int → Nat} (h : RelA G T N I R z a o σ A w) {b : Int} (hb : 0 ≤ b ∧ b < 4) : axE G YX11_tipOf 0 [vR a, vI b] T N I R z (some (vR (A (σ (o + 7) b)))) I := by
  have := c_tipOf (G := G) (I := I) (rl_fx h) (c := b) (by constructor <;> omega)
  rw [if_pos hb, rl_tp h b hb.1 hb.2] at this
  exact this
theorem rl_nt {G : ax_G} {T : Nat → Nat} {N : Nat → Int} {I : Nat → Int → Int} {R : Nat → Int → Option Nat} {z a o : Nat} {σ : Nat → Int → Int} {A w : Int → Nat} (h : RelA G T N I R z a o σ A w) {b : Int} (hr : ax_r b) (hb : ¬ (0 ≤ b ∧ b < 4)) : axE G YX11_tipOf 0 [vR a, vI b] T N I R z (some vN) I := by
  have := c_tipOf (G := G) (I := I) (rl_fx h) (c := b) hr
  rw [if_neg hb] at this
  exact this
theorem rl_ap {G : ax_G} {T : Nat → Nat} {N : Nat → Int} {I : Nat → Int → Int} {R : Nat → Int → Option Nat} {z a o : Nat} {σ : Nat → Int → Int} {A w : Int → Nat} (h : RelA G T N I R z a o σ A w) {m : Nat} (hm : m = a + 98 ∨ m = a + 137) : ∀ c, 0 ≤ c → c < σ o 2 → apt m (w c) := fun c h0 h1 => by
  obtain ⟨-, -, -, -, -, -, -, c8⟩ := rl_cc h c h0 h1
  have b0 := fx_b0 (rl_fx h)
  have b1 := fx_b1 (rl_fx h)
  have hnl := (fx_nl (rl_fx h)).2
  unfold apt
  omega
theorem rl_pw {G : ax_G} {T : Nat → Nat} {N : Nat → Int} {I : Nat → Int → Int} {R : Nat → Int → Option Nat} {z a o : Nat} {σ : Nat → Int → Int} {A w : Int → Nat} (h : RelA G T N I R z a o σ A w) (hI : miC σ o) {m : Nat} (hm : m = a + 98 ∨ m = a + 137) {c : Int} (h0 : 0 ≤ c) (h1 : c < σ o 2) : apt m (pwA w (σ (o + 2)) c) := by
  unfold pwA
  by_cases hc : c = 0
  · rw [if_pos hc]; exact rl_ap h hm c h0 h1
  · rw [if_neg hc]
    have := hI.2.2.1.2 c (by omega) h1
    exact rl_ap h hm _ this.1 (by omega)
theorem rl_chg {G : ax_G} {T : Nat → Nat} {N : Nat → Int} {I : Nat → Int → Int} {R : Nat → Int → Option Nat} {z a o : Nat} {σ : Nat → Int → Int} {A w : Int → Nat} (h : RelA G T N I R z a o σ A w) (hI : miC σ o) (hz0 : σ (o + 6) 0 = 0) {c : Int} (h0 : 0 ≤ c) (h1 : c < σ o 2) : chgL (I (pwA w (σ (o + 2)) c)) (I (w c)) (pcsOf (I (pwA w (σ (o + 2)) c)) (I (w c)) (N (pwA w (σ (o + 2)) c)) (N (w c))) = chgC σ o c := by
  have hln := hI.2.1.2
  obtain ⟨e1, e2⟩ := rl_row h h0 h1
  have hp : seg (I (pwA w (σ (o + 2)) c)) 0 (N (pwA w (σ (o + 2)) c)) = (if c = 0 then rowL σ o c else rowL σ o (σ (o + 2) c)) ∧ 0 ≤ N (pwA w (σ (o + 2)) c) := by
    unfold pwA
    by_cases hc : c = 0
    · rw [if_pos hc, if_pos hc, e2]
      exact ⟨by rw [← e2]; exact e1, (hln c).1⟩
    · rw [if_neg hc, if_neg hc]
      have := hI.2.2.1.2 c (by omega) h1
      obtain ⟨f1, f2⟩ := rl_row h this.1 (by omega : σ (o + 2) c < σ o 2)
      exact ⟨f1, by rw [f2]; exact (hln _).1⟩
  rw [chg_list hp.2 (by rw [e2]; exact (hln c).1), e1, hp.1, chgC_list (fun j => (hln j).1)]
  by_cases hc : c = 0
  · rw [if_pos hc, if_pos hc]
    have : rowL σ o c = [] := by unfold rowL; rw [hc, hz0]; exact seg_nil (Int.le_refl _)
    rw [this]
    rfl
  · rw [if_neg hc, if_neg hc]

set_option maxHeartbeats 4000000 in
set_option maxRecDepth 100000 in
theorem c_tip {G : ax_G} {T : Nat → Nat} {N : Nat → Int} {I : Nat → Int → Int} {R : Nat → Int → Option Nat} {z a o : Nat} {σ : Nat → Int → Int} {A w : Int → Nat} (h : RelA G T N I R z a o σ A w) (hI : miC σ o) {b : Int} (hb : ax_r b) : axR G YX11_tip 1 [vR a, vI b] T N I R z (fun r1 I1 R1 => r1 = some (vI (tpR σ o b)) ∧ scK T N a I I1 R R1) := by
  refine ax_enter (by decide) (Nat.le_of_ble_eq_true rfl) (ax_cat rfl) (fun f hC => ?_)
  show axX G f 0 0 _ 0 [vR a, vI b, vU] [] T N I R z 0 0
  have hx := rl_fx h

  unfold tpR
  by_cases hb4 : 0 ≤ b ∧ b < 4
  · rw [if_pos hb4]
    have ht := hI.2.2.2.2.1 b hb4.1 hb4.2
    obtain ⟨c1, c2, -⟩ := (rl_cs h).2 _ ht.1 ht.2
    refine x_aload_n (pc := 0) hC dX11_tip_0 rfl ?_
    refine x_iload_n (pc := 1) hC dX11_tip_1 rfl ?_
    refine x_mV (pc := 2) hC cv_X11_81 dX11_tip_2 (rl_tip h hb4) (fx_ta hx) rfl (by decide) rfl rfl (Nat.le_of_ble_eq_true rfl) ?_
    dsimp only [Option.toList, List.cons_append, List.nil_append]
    refine x_astore_n (pc := 5) hC dX11_tip_5 (Nat.le_of_ble_eq_true rfl) ?_
    dsimp only [List.set]
    refine x_aload_n (pc := 6) hC dX11_tip_6 rfl ?_
    refine x_ifnonnull (pc := 7) hC 14 dX11_tip_7 (by decide) (fun _ _ => ?_) (fun h => by cases h)
    refine x_aload_n (pc := 14) hC dX11_tip_14 rfl ?_
    refine x_getI (pc := 15) hC (gp_X11_120 c1) dX11_tip_15 rfl ?_
    refine x_iret (pc := 18) hC rfl dX11_tip_18 ?_
    exact ⟨⟨by rw [c2], scK.rf⟩, rfl, rfl, rfl⟩
  · rw [if_neg hb4]
    refine x_aload_n (pc := 0) hC dX11_tip_0 rfl ?_
    refine x_iload_n (pc := 1) hC dX11_tip_1 rfl ?_
    refine x_mV (pc := 2) hC cv_X11_81 dX11_tip_2 (rl_nt h hb hb4) (fx_ta hx) rfl (by decide) rfl rfl (Nat.le_of_ble_eq_true rfl) ?_
    dsimp only [Option.toList, List.cons_append, List.nil_append]
    refine x_astore_n (pc := 5) hC dX11_tip_5 (Nat.le_of_ble_eq_true rfl) ?_
    dsimp only [List.set]
    refine x_aload_n (pc := 6) hC dX11_tip_6 rfl ?_
    refine x_ifnonnull (pc := 7) hC 14 dX11_tip_7 (by decide) (fun _ h => by cases h) (fun _ => ?_)
    refine x_iconst (pc := 10) hC dX11_tip_10 ?_
    refine x_goto (pc := 11) hC 18 dX11_tip_11 (by decide) ?_
    refine x_iret (pc := 18) hC rfl dX11_tip_18 ?_
    exact ⟨⟨rfl, scK.rf⟩, rfl, rfl, rfl⟩

set_option maxHeartbeats 4000000 in
set_option maxRecDepth 100000 in
theorem c_trace {G : ax_G} {T : Nat → Nat} {N : Nat → Int} {I : Nat → Int → Int} {R : Nat → Int → Option Nat} {z a o : Nat} {σ : Nat → Int → Int} {A w : Int → Nat} (h : RelA G T N I R z a o σ A w) (hI : miC σ o) : axR G YX11_trace 0 [vR a] T N I R z (fun r1 I1 R1 => r1 = some (vI (σ o 1)) ∧ scK T N a I I1 R R1) := by
  refine ax_enter (by decide) (Nat.le_of_ble_eq_true rfl) (ax_cat rfl) (fun f hC => ?_)
  show axX G f 0 0 _ 0 [vR a] [] T N I R z 0 0
  have hx := rl_fx h
  refine x_aload_n (pc := 0) hC dX11_trace_0 rfl ?_
  refine x_getO (pc := 1) hC gf_X11_14 dX11_trace_1 (fx_ta hx) (fx_tr hx).1 ?_
  refine x_getI (pc := 4) hC gf_X11_355 dX11_trace_4 (fx_tr hx).2 ?_
  refine x_iret (pc := 7) hC rfl dX11_trace_7 ?_
  exact ⟨⟨by rw [rl_t h], scK.rf⟩, rfl, rfl, rfl⟩

set_option maxHeartbeats 4000000 in
set_option maxRecDepth 100000 in
theorem c_fault {G : ax_G} {T : Nat → Nat} {N : Nat → Int} {I : Nat → Int → Int} {R : Nat → Int → Option Nat} {z a o : Nat} {σ : Nat → Int → Int} {A w : Int → Nat} (h : RelA G T N I R z a o σ A w) (hI : miC σ o) : axR G YX11_fault 0 [vR a] T N I R z (fun r1 I1 R1 => r1 = some (vI (σ o 0)) ∧ scK T N a I I1 R R1) := by
  refine ax_enter (by decide) (Nat.le_of_ble_eq_true rfl) (ax_cat rfl) (fun f hC => ?_)
  show axX G f 0 0 _ 0 [vR a] [] T N I R z 0 0
  have hx := rl_fx h
  refine x_aload_n (pc := 0) hC dX11_fault_0 rfl ?_
  refine x_getI (pc := 1) hC gf_X11_77 dX11_fault_1 (fx_ta hx) ?_
  refine x_iret (pc := 4) hC rfl dX11_fault_4 ?_
  exact ⟨⟨by rw [rl_f h], scK.rf⟩, rfl, rfl, rfl⟩

set_option maxHeartbeats 4000000 in
set_option maxRecDepth 100000 in
theorem c_ahead {G : ax_G} {T : Nat → Nat} {N : Nat → Int} {I : Nat → Int → Int} {R : Nat → Int → Option Nat} {z a o : Nat} {σ : Nat → Int → Int} {A w : Int → Nat} (h : RelA G T N I R z a o σ A w) (hI : miC σ o) {c d : Int} (rc : ax_r c) (rd : ax_r d) : axR G YX11_ahead 2 [vR a, vI c, vI d] T N I R z (fun r1 I1 R1 => r1 = some (vI (ahR σ o c d)) ∧ scK T N a I I1 R R1) := by
  refine ax_enter (by decide) (Nat.le_of_ble_eq_true rfl) (ax_cat rfl) (fun f hC => ?_)
  show axX G f 0 0 _ 0 [vR a, vI c, vI d, vU, vU] [] T N I R z 0 0
  have hx := rl_fx h
  unfold ahR
  have hn := rl_n h
  have hC1 := hI.1
  have c2at := c_commitAt (G := G) (I := I) hx (c := d) rd (by omega)
  by_cases hc : 0 ≤ c ∧ c < σ o 2
  · by_cases hd : 0 ≤ d ∧ d < σ o 2
    · rw [if_pos ⟨hc, hd⟩]
      have k1 := ((rl_cs h).2 c hc.1 hc.2).1
      have k2 := ((rl_cs h).2 d hd.1 hd.2).1
      
      refine x_aload_n (pc := 0) hC dX11_ahead_0 rfl ?_
      refine x_iload_n (pc := 1) hC dX11_ahead_1 rfl ?_
      refine x_mV (pc := 2) hC cv_X11_123 dX11_ahead_2 (rl_at h hI hc) (fx_ta hx) rfl (by decide) rfl rfl (Nat.le_of_ble_eq_true rfl) ?_
      dsimp only [Option.toList, List.cons_append, List.nil_append]
      refine x_astore_n (pc := 5) hC dX11_ahead_5 (Nat.le_of_ble_eq_true rfl) ?_
      dsimp only [List.set]
      refine x_aload_n (pc := 6) hC dX11_ahead_6 rfl ?_
      refine x_iload_n (pc := 7) hC dX11_ahead_7 rfl ?_
      refine x_mV (pc := 8) hC cv_X11_123 dX11_ahead_8 (rl_at h hI hd) (fx_ta hx) rfl (by decide) rfl rfl (Nat.le_of_ble_eq_true rfl) ?_
      dsimp only [Option.toList, List.cons_append, List.nil_append]
      refine x_astore (pc := 11) hC dX11_ahead_11 (Nat.le_of_ble_eq_true rfl) ?_
      dsimp only [List.set]
      refine x_aload_n (pc := 13) hC dX11_ahead_13 rfl ?_
      refine x_ifnull (pc := 14) hC 22 dX11_ahead_14 (by decide) (fun h => by cases h) (fun _ _ => ?_)
      refine x_aload (pc := 17) hC dX11_ahead_17 rfl ?_
      refine x_ifnonnull (pc := 19) hC 26 dX11_ahead_19 (by decide) (fun _ _ => ?_) (fun h => by cases h)
      refine x_aload_n (pc := 26) hC dX11_ahead_26 rfl ?_
      refine x_aload (pc := 27) hC dX11_ahead_27 rfl ?_
      refine x_mU (pc := 29) hC (cq_X11_183 k1) dX11_ahead_29 (c_countNot (rl_cs h) hc hd) rfl rfl (by decide) rfl rfl (Nat.le_of_ble_eq_true rfl) ?_
      dsimp only [Option.toList, List.cons_append, List.nil_append]
      refine x_iret (pc := 32) hC rfl dX11_ahead_32 ?_
      exact ⟨⟨rfl, scK.rf⟩, rfl, rfl, rfl⟩
    · rw [if_neg (fun h9 => hd h9.2)]
      have k1 := ((rl_cs h).2 c hc.1 hc.2).1
      refine x_aload_n (pc := 0) hC dX11_ahead_0 rfl ?_
      refine x_iload_n (pc := 1) hC dX11_ahead_1 rfl ?_
      refine x_mV (pc := 2) hC cv_X11_123 dX11_ahead_2 (rl_at h hI hc) (fx_ta hx) rfl (by decide) rfl rfl (Nat.le_of_ble_eq_true rfl) ?_
      dsimp only [Option.toList, List.cons_append, List.nil_append]
      refine x_astore_n (pc := 5) hC dX11_ahead_5 (Nat.le_of_ble_eq_true rfl) ?_
      dsimp only [List.set]
      refine x_aload_n (pc := 6) hC dX11_ahead_6 rfl ?_
      refine x_iload_n (pc := 7) hC dX11_ahead_7 rfl ?_
      refine x_mV (pc := 8) hC cv_X11_123 dX11_ahead_8 (rl_no h hI rd hd) (fx_ta hx) rfl (by decide) rfl rfl (Nat.le_of_ble_eq_true rfl) ?_
      dsimp only [Option.toList, List.cons_append, List.nil_append]
      refine x_astore (pc := 11) hC dX11_ahead_11 (Nat.le_of_ble_eq_true rfl) ?_
      dsimp only [List.set]
      refine x_aload_n (pc := 13) hC dX11_ahead_13 rfl ?_
      refine x_ifnull (pc := 14) hC 22 dX11_ahead_14 (by decide) (fun h => by cases h) (fun _ _ => ?_)
      refine x_aload (pc := 17) hC dX11_ahead_17 rfl ?_
      refine x_ifnonnull (pc := 19) hC 26 dX11_ahead_19 (by decide) (fun _ h => by cases h) (fun _ => ?_)
      refine x_iconst (pc := 22) hC dX11_ahead_22 ?_
      refine x_goto (pc := 23) hC 32 dX11_ahead_23 (by decide) ?_
      refine x_iret (pc := 32) hC rfl dX11_ahead_32 ?_
      exact ⟨⟨rfl, scK.rf⟩, rfl, rfl, rfl⟩
  · rw [if_neg (fun h9 => hc h9.1)]
    refine x_aload_n (pc := 0) hC dX11_ahead_0 rfl ?_
    refine x_iload_n (pc := 1) hC dX11_ahead_1 rfl ?_
    refine x_mV (pc := 2) hC cv_X11_123 dX11_ahead_2 (rl_no h hI rc hc) (fx_ta hx) rfl (by decide) rfl rfl (Nat.le_of_ble_eq_true rfl) ?_
    dsimp only [Option.toList, List.cons_append, List.nil_append]
    refine x_astore_n (pc := 5) hC dX11_ahead_5 (Nat.le_of_ble_eq_true rfl) ?_
    dsimp only [List.set]
    refine x_aload_n (pc := 6) hC dX11_ahead_6 rfl ?_
    refine x_iload_n (pc := 7) hC dX11_ahead_7 rfl ?_
    refine x_mV (pc := 8) hC cv_X11_123 dX11_ahead_8 c2at (fx_ta hx) rfl (by decide) rfl rfl (Nat.le_of_ble_eq_true rfl) ?_
    dsimp only [Option.toList, List.cons_append, List.nil_append]
    refine x_astore (pc := 11) hC dX11_ahead_11 (Nat.le_of_ble_eq_true rfl) ?_
    dsimp only [List.set]
    refine x_aload_n (pc := 13) hC dX11_ahead_13 rfl ?_
    refine x_ifnull (pc := 14) hC 22 dX11_ahead_14 (by decide) (fun _ => ?_) (fun _ h => by cases h)
    refine x_iconst (pc := 22) hC dX11_ahead_22 ?_
    refine x_goto (pc := 23) hC 32 dX11_ahead_23 (by decide) ?_
    refine x_iret (pc := 32) hC rfl dX11_ahead_32 ?_
    exact ⟨⟨rfl, scK.rf⟩, rfl, rfl, rfl⟩

set_option maxHeartbeats 4000000 in
set_option maxRecDepth 100000 in
theorem c_alike {G : ax_G} {T : Nat → Nat} {N : Nat → Int} {I : Nat → Int → Int} {R : Nat → Int → Option Nat} {z a o : Nat} {σ : Nat → Int → Int} {A w : Int → Nat} (h : RelA G T N I R z a o σ A w) (hI : miC σ o) (hz0 : σ (o + 6) 0 = 0) {c d : Int} (rc : ax_r c) (rd : ax_r d) : axR G YX11_alike 4 [vR a, vI c, vI d] T N I R z (fun r1 I1 R1 => r1 = some (vI (alR σ o c d)) ∧ scK T N a I I1 R R1) := by
  refine ax_enter (by decide) (Nat.le_of_ble_eq_true rfl) (ax_cat rfl) (fun f hC => ?_)
  show axX G f 0 0 _ 0 [vR a, vI c, vI d, vU, vU] [] T N I R z 0 0
  have hx := rl_fx h
  unfold alR
  have hn := rl_n h
  have hC1 := hI.1
  have c2at := c_commitAt (G := G) (I := I) hx (c := d) rd (by omega)
  by_cases hc : 0 ≤ c ∧ c < σ o 2
  · by_cases hd : 0 ≤ d ∧ d < σ o 2
    · rw [if_pos ⟨hc, hd⟩]
      have k1 := ((rl_cs h).2 c hc.1 hc.2).1
      have k2 := ((rl_cs h).2 d hd.1 hd.2).1
      
      refine x_aload_n (pc := 0) hC dX11_alike_0 rfl ?_
      refine x_iload_n (pc := 1) hC dX11_alike_1 rfl ?_
      refine x_mV (pc := 2) hC cv_X11_123 dX11_alike_2 (rl_at h hI hc) (fx_ta hx) rfl (by decide) rfl rfl (Nat.le_of_ble_eq_true rfl) ?_
      dsimp only [Option.toList, List.cons_append, List.nil_append]
      refine x_astore_n (pc := 5) hC dX11_alike_5 (Nat.le_of_ble_eq_true rfl) ?_
      dsimp only [List.set]
      refine x_aload_n (pc := 6) hC dX11_alike_6 rfl ?_
      refine x_iload_n (pc := 7) hC dX11_alike_7 rfl ?_
      refine x_mV (pc := 8) hC cv_X11_123 dX11_alike_8 (rl_at h hI hd) (fx_ta hx) rfl (by decide) rfl rfl (Nat.le_of_ble_eq_true rfl) ?_
      dsimp only [Option.toList, List.cons_append, List.nil_append]
      refine x_astore (pc := 11) hC dX11_alike_11 (Nat.le_of_ble_eq_true rfl) ?_
      dsimp only [List.set]
      refine x_aload_n (pc := 13) hC dX11_alike_13 rfl ?_
      refine x_ifnull (pc := 14) hC 22 dX11_alike_14 (by decide) (fun h => by cases h) (fun _ _ => ?_)
      refine x_aload (pc := 17) hC dX11_alike_17 rfl ?_
      refine x_ifnonnull (pc := 19) hC 24 dX11_alike_19 (by decide) (fun _ _ => ?_) (fun h => by cases h)
      refine x_aload_n (pc := 24) hC dX11_alike_24 rfl ?_
      refine x_getO (pc := 25) hC gf_X11_43 dX11_alike_25 (fx_ta hx) (fx_ch hx).1 ?_
      refine x_aload_n (pc := 28) hC dX11_alike_28 rfl ?_
      refine x_rV (pc := 29) hC cv_X11_136 dX11_alike_29 (c_readChange (rl_cs h) (fx_ch hx).2 hc (rl_ap h (Or.inl rfl))) (fx_ch hx).2.1 rfl (by decide) rfl rfl (Nat.le_of_ble_eq_true rfl) ?_
      rintro v J1 S1 ⟨rfl, m1, m2, m2w⟩
      dsimp only [Option.toList, List.nil_append]
      have s1 : scK T N a I J1 R S1 := sc_rd (Or.inl rfl) m1
      have h1 := rl_sc h s1
      have hx1 := rl_fx h1
      have m2l := congrArg List.length (rl_chg h hI hz0 hc.1 hc.2)
      rw [rl_chg h hI hz0 hc.1 hc.2] at m2
      rw [chgL, List.length_map] at m2l
      refine x_aload_n (pc := 32) hC dX11_alike_32 rfl ?_
      refine x_getO (pc := 33) hC gf_X11_47 dX11_alike_33 (fx_ta hx) (fx_co hx1).1 ?_
      refine x_aload (pc := 36) hC dX11_alike_36 rfl ?_
      refine x_rV (pc := 38) hC cv_X11_136 dX11_alike_38 (c_readChange (rl_cs h1) (fx_co hx1).2 hd (rl_ap h1 (Or.inr rfl))) (fx_co hx1).2.1 rfl (by decide) rfl rfl (Nat.le_of_ble_eq_true rfl) ?_
      rintro v J2 S2 ⟨rfl, n1, n2, n2w⟩
      dsimp only [Option.toList, List.nil_append]
      have s2 : scK T N a J1 J2 S1 S2 := sc_rd (Or.inr rfl) n1
      have h2 := rl_sc h1 s2
      have hx2 := rl_fx h2
      rw [rl_chg h1 hI hz0 hd.1 hd.2] at n2
      have m3 : mcS T N J2 S2 (a + 98) (chgC σ o c) := mcS_fr m2 m2w m2l.symm (fun q a1 a2 => ⟨n1.1 q (by omega), n1.2 q (by omega)⟩) (n1.1 _ (by have := rl_pw h hI (Or.inr rfl) hc.1 hc.2; unfold apt at this; omega)) (n1.1 _ (by have := rl_ap h (Or.inr rfl) c hc.1 hc.2; unfold apt at this; omega))
      refine x_aload_n (pc := 41) hC dX11_alike_41 rfl ?_
      refine x_getO (pc := 42) hC gf_X11_43 dX11_alike_42 (fx_ta hx) (fx_ch hx2).1 ?_
      refine x_aload_n (pc := 45) hC dX11_alike_45 rfl ?_
      refine x_getO (pc := 46) hC gf_X11_47 dX11_alike_46 (fx_ta hx) (fx_co hx2).1 ?_
      refine x_mV (pc := 49) hC cv_X11_175 dX11_alike_49 (c_hasSame (fx_ch hx2).2 (fx_co hx2).2 m3 n2) (fx_ch hx2).2.1 rfl (by decide) rfl rfl (Nat.le_of_ble_eq_true rfl) ?_
      dsimp only [Option.toList, List.cons_append, List.nil_append]
      refine x_ifB_eq (pc := 52) hC 59 dX11_alike_52 (by decide) (fun b52 => ?_) (fun b52 => ?_)
      · refine x_iconst (pc := 59) hC dX11_alike_59 ?_
        refine x_iret (pc := 60) hC rfl dX11_alike_60 ?_
        refine ⟨⟨?_, s1.tr s2⟩, rfl, rfl, rfl⟩
        first
        | (rw [bI_t b52]; done)
        | (rw [bI_f b52]; done)
      · refine x_iconst (pc := 55) hC dX11_alike_55 ?_
        refine x_goto (pc := 56) hC 60 dX11_alike_56 (by decide) ?_
        refine x_iret (pc := 60) hC rfl dX11_alike_60 ?_
        refine ⟨⟨?_, s1.tr s2⟩, rfl, rfl, rfl⟩
        first
        | (rw [bI_t b52]; done)
        | (rw [bI_f b52]; done)
    · rw [if_neg (fun h9 => hd h9.2)]
      have k1 := ((rl_cs h).2 c hc.1 hc.2).1
      refine x_aload_n (pc := 0) hC dX11_alike_0 rfl ?_
      refine x_iload_n (pc := 1) hC dX11_alike_1 rfl ?_
      refine x_mV (pc := 2) hC cv_X11_123 dX11_alike_2 (rl_at h hI hc) (fx_ta hx) rfl (by decide) rfl rfl (Nat.le_of_ble_eq_true rfl) ?_
      dsimp only [Option.toList, List.cons_append, List.nil_append]
      refine x_astore_n (pc := 5) hC dX11_alike_5 (Nat.le_of_ble_eq_true rfl) ?_
      dsimp only [List.set]
      refine x_aload_n (pc := 6) hC dX11_alike_6 rfl ?_
      refine x_iload_n (pc := 7) hC dX11_alike_7 rfl ?_
      refine x_mV (pc := 8) hC cv_X11_123 dX11_alike_8 (rl_no h hI rd hd) (fx_ta hx) rfl (by decide) rfl rfl (Nat.le_of_ble_eq_true rfl) ?_
      dsimp only [Option.toList, List.cons_append, List.nil_append]
      refine x_astore (pc := 11) hC dX11_alike_11 (Nat.le_of_ble_eq_true rfl) ?_
      dsimp only [List.set]
      refine x_aload_n (pc := 13) hC dX11_alike_13 rfl ?_
      refine x_ifnull (pc := 14) hC 22 dX11_alike_14 (by decide) (fun h => by cases h) (fun _ _ => ?_)
      refine x_aload (pc := 17) hC dX11_alike_17 rfl ?_
      refine x_ifnonnull (pc := 19) hC 24 dX11_alike_19 (by decide) (fun _ h => by cases h) (fun _ => ?_)
      refine x_iconst (pc := 22) hC dX11_alike_22 ?_
      refine x_iret (pc := 23) hC rfl dX11_alike_23 ?_
      exact ⟨⟨rfl, scK.rf⟩, rfl, rfl, rfl⟩
  · rw [if_neg (fun h9 => hc h9.1)]
    refine x_aload_n (pc := 0) hC dX11_alike_0 rfl ?_
    refine x_iload_n (pc := 1) hC dX11_alike_1 rfl ?_
    refine x_mV (pc := 2) hC cv_X11_123 dX11_alike_2 (rl_no h hI rc hc) (fx_ta hx) rfl (by decide) rfl rfl (Nat.le_of_ble_eq_true rfl) ?_
    dsimp only [Option.toList, List.cons_append, List.nil_append]
    refine x_astore_n (pc := 5) hC dX11_alike_5 (Nat.le_of_ble_eq_true rfl) ?_
    dsimp only [List.set]
    refine x_aload_n (pc := 6) hC dX11_alike_6 rfl ?_
    refine x_iload_n (pc := 7) hC dX11_alike_7 rfl ?_
    refine x_mV (pc := 8) hC cv_X11_123 dX11_alike_8 c2at (fx_ta hx) rfl (by decide) rfl rfl (Nat.le_of_ble_eq_true rfl) ?_
    dsimp only [Option.toList, List.cons_append, List.nil_append]
    refine x_astore (pc := 11) hC dX11_alike_11 (Nat.le_of_ble_eq_true rfl) ?_
    dsimp only [List.set]
    refine x_aload_n (pc := 13) hC dX11_alike_13 rfl ?_
    refine x_ifnull (pc := 14) hC 22 dX11_alike_14 (by decide) (fun _ => ?_) (fun _ h => by cases h)
    refine x_iconst (pc := 22) hC dX11_alike_22 ?_
    refine x_iret (pc := 23) hC rfl dX11_alike_23 ?_
    exact ⟨⟨rfl, scK.rf⟩, rfl, rfl, rfl⟩

