/-! THE CLASS: calls that lay no new cell; commits of any kind -/
def axR (G : ax_G) (Y : ax_Y) (d : Nat) (as : List ax_V) (T : Nat → Nat) (N : Nat → Int) (I : Nat → Int → Int) (R : Nat → Int → Option Nat) (z : Nat) (P : Option ax_V → (Nat → Int → Int) → (Nat → Int → Option Nat) → Prop) : Prop := axM G Y d as T N I R z 0 0 (fun r1 T1 N1 I1 R1 z1 => P r1 I1 R1 ∧ T1 = T ∧ N1 = N ∧ z1 = z)
abbrev pT (n : Nat) : Prop := n = 0 ∨ n = 1 ∨ n = 5
section CX
variable {G : ax_G} {f : ax_F} {Y : ax_Y} {own : String} {d mc ms : Nat} {Q : ax_P} {pc : Nat} {L st : List ax_V} {T : Nat → Nat} {N : Nat → Int} {I : Nat → Int → Int} {R : Nat → Int → Option Nat} {z k n : Nat}
theorem x_mU (hC : axC G f Y own d mc ms) {idx ci b na d' : Nat} {owner : String} {x : MethodName} {Y' : ax_Y} {as stk rest : List ax_V} {v : Option ax_V} {I' : Nat → Int → Int} (hs : axCalU own idx ci owner x Y' na) (hd : decode Y.2.1 pc = .ok (.invokevirtual idx, 3)) (hM : axE G Y' d' (vR b :: as) T N I R z v I') (ht : T b = ci) (hst : stk = as.reverse ++ vR b :: rest) (hdd : d' + 1 ≤ d) (hna : as.length = na) (hLl : L.length = Y.2.2.1) (hcat : ((rest.map axv).map fun v => v.category).sum ≤ 8) (kk : axX G f mc ms Q (pc + 3) L (v.toList ++ rest) T N I' R z k n) : axX G f mc ms Q pc L stk T N I R z k n :=
  x_callU hC hs hd hM ht hst hdd (Nat.zero_le _) (Nat.zero_le _) hna hLl hcat (fun r T' N' I' R' z' hq => by obtain ⟨rfl, rfl, rfl, rfl, rfl, rfl⟩ := hq; exact kk)
theorem x_mUx (hC : axC G f Y own d mc ms) {idx ci b na d' : Nat} {owner : String} {x : MethodName} {Y' : ax_Y} {as stk rest : List ax_V} {P : Option ax_V → (Nat → Int → Int) → Prop} (hs : axCalU own idx ci owner x Y' na) (hd : decode Y.2.1 pc = .ok (.invokevirtual idx, 3)) (hM : axEx G Y' d' (vR b :: as) T N I R z P) (ht : T b = ci) (hst : stk = as.reverse ++ vR b :: rest) (hdd : d' + 1 ≤ d) (hna : as.length = na) (hLl : L.length = Y.2.2.1) (hcat : ((rest.map axv).map fun v => v.category).sum ≤ 8) (kk : ∀ v I', P v I' → axX G f mc ms Q (pc + 3) L (v.toList ++ rest) T N I' R z k n) : axX G f mc ms Q pc L stk T N I R z k n :=
  x_callU hC hs hd hM ht hst hdd (Nat.zero_le _) (Nat.zero_le _) hna hLl hcat (fun r T' N' I' R' z' hq => by obtain ⟨hp, rfl, rfl, rfl, rfl⟩ := hq; exact kk _ _ hp)
theorem x_rU (hC : axC G f Y own d mc ms) {idx ci b na d' : Nat} {owner : String} {x : MethodName} {Y' : ax_Y} {as stk rest : List ax_V} {P : Option ax_V → (Nat → Int → Int) → (Nat → Int → Option Nat) → Prop} (hs : axCalU own idx ci owner x Y' na) (hd : decode Y.2.1 pc = .ok (.invokevirtual idx, 3)) (hM : axR G Y' d' (vR b :: as) T N I R z P) (ht : T b = ci) (hst : stk = as.reverse ++ vR b :: rest) (hdd : d' + 1 ≤ d) (hna : as.length = na) (hLl : L.length = Y.2.2.1) (hcat : ((rest.map axv).map fun v => v.category).sum ≤ 8) (kk : ∀ v I' R', P v I' R' → axX G f mc ms Q (pc + 3) L (v.toList ++ rest) T N I' R' z k n) : axX G f mc ms Q pc L stk T N I R z k n :=
  x_callU hC hs hd hM ht hst hdd (Nat.zero_le _) (Nat.zero_le _) hna hLl hcat (fun r T' N' I' R' z' hq => by obtain ⟨hp, rfl, rfl, rfl⟩ := hq; exact kk _ _ _ hp)
theorem x_rV (hC : axC G f Y own d mc ms) {idx ci b na d' : Nat} {Y' : ax_Y} {as stk rest : List ax_V} {P : Option ax_V → (Nat → Int → Int) → (Nat → Int → Option Nat) → Prop} (hs : axCalV own idx ci Y' na) (hd : decode Y.2.1 pc = .ok (.invokevirtual idx, 3)) (hM : axR G Y' d' (vR b :: as) T N I R z P) (ht : T b = ci) (hst : stk = as.reverse ++ vR b :: rest) (hdd : d' + 1 ≤ d) (hna : as.length = na) (hLl : L.length = Y.2.2.1) (hcat : ((rest.map axv).map fun v => v.category).sum ≤ 8) (kk : ∀ v I' R', P v I' R' → axX G f mc ms Q (pc + 3) L (v.toList ++ rest) T N I' R' z k n) : axX G f mc ms Q pc L stk T N I R z k n :=
  x_callV hC hs hd hM ht hst hdd (Nat.zero_le _) (Nat.zero_le _) hna hLl hcat (fun r T' N' I' R' z' hq => by obtain ⟨hp, rfl, rfl, rfl⟩ := hq; exact kk _ _ _ hp)
theorem x_rS (hC : axC G f Y own d mc ms) {idx na d' : Nat} {Y' : ax_Y} {as stk rest : List ax_V} {P : Option ax_V → (Nat → Int → Int) → (Nat → Int → Option Nat) → Prop} (hs : axCalS own idx Y' na) (hd : decode Y.2.1 pc = .ok (.invokestatic idx, 3)) (hM : axR G Y' d' as T N I R z P) (hst : stk = as.reverse ++ rest) (hdd : d' + 1 ≤ d) (hna : as.length = na) (hLl : L.length = Y.2.2.1) (hcat : ((rest.map axv).map fun v => v.category).sum ≤ 8) (kk : ∀ v I' R', P v I' R' → axX G f mc ms Q (pc + 3) L (v.toList ++ rest) T N I' R' z k n) : axX G f mc ms Q pc L stk T N I R z k n :=
  x_callS hC hs hd hM hst hdd (Nat.zero_le _) (Nat.zero_le _) hna hLl hcat (fun r T' N' I' R' z' hq => by obtain ⟨hp, rfl, rfl, rfl⟩ := hq; exact kk _ _ _ hp)
theorem x_mSx (hC : axC G f Y own d mc ms) {idx na d' : Nat} {Y' : ax_Y} {as stk rest : List ax_V} {P : Option ax_V → (Nat → Int → Int) → Prop} (hs : axCalS own idx Y' na) (hd : decode Y.2.1 pc = .ok (.invokestatic idx, 3)) (hM : axEx G Y' d' as T N I R z P) (hst : stk = as.reverse ++ rest) (hdd : d' + 1 ≤ d) (hna : as.length = na) (hLl : L.length = Y.2.2.1) (hcat : ((rest.map axv).map fun v => v.category).sum ≤ 8) (kk : ∀ v I', P v I' → axX G f mc ms Q (pc + 3) L (v.toList ++ rest) T N I' R z k n) : axX G f mc ms Q pc L stk T N I R z k n :=
  x_callS hC hs hd hM hst hdd (Nat.zero_le _) (Nat.zero_le _) hna hLl hcat (fun r T' N' I' R' z' hq => by obtain ⟨hp, rfl, rfl, rfl, rfl⟩ := hq; exact kk _ _ hp)
theorem x_mmax (hC : axC G f Y own d mc ms) {idx : Nat} (hs : axCalS own idx YJ9_max_7cf53 2) (hd : decode Y.2.1 pc = .ok (.invokestatic idx, 3)) {x y : Int} (hx : ax_r x) (hy : ax_r y) (hd1 : 1 ≤ d) (hLl : L.length = Y.2.2.1) (hcat : ((st.map axv).map fun v => v.category).sum ≤ 8) (kk : axX G f mc ms Q (pc + 3) L (vI (max x y) :: st) T N I R z k n) : axX G f mc ms Q pc L (vI y :: vI x :: st) T N I R z k n := by
  intro H locs ls hH hl hL hk hn
  have hts := hC.2.2.2.2.2.2.1
  have hRm := hC.2.2.2.2.2.2.2.2.2.1
  have e : (if Int32.ofInt x < Int32.ofInt y then Int32.ofInt y else Int32.ofInt x) = Int32.ofInt (max x y) := by
    by_cases h : x < y
    · rw [if_pos ((ax_lt hx hy).mpr h)]; congr 1; omega
    · rw [if_neg (fun q => h ((ax_lt hx hy).mp q))]; congr 1; omega
  have h9 := kk H locs ls hH hl hL hk hn
  have h8 : List.map axv (vI (max x y) :: st) = .int (if Int32.ofInt x < Int32.ofInt y then Int32.ofInt y else Int32.ofInt x) :: List.map axv st := by rw [e]; rfl
  rw [h8] at h9
  exact va_mmax hC.1 hC.2.1 (by rw [hL.1, hLl, hC.2.2.1]) hC.2.2.2.2.2.1 (hts _ hs.1) (hts _ hs.2.1) (hts _ hs.2.2.1) (hts _ hs.2.2.2.1) (by rw [hRm]; exact hd1) (by rw [hRm]; show _ + 13 ≤ 42 * d; omega) (by rw [hRm]; exact Nat.sub_le _ _) (by rw [hRm]; exact Nat.sub_le _ _) hd h9
theorem x_mmin (hC : axC G f Y own d mc ms) {idx : Nat} (hs : axCalS own idx YJ9_min_7cf53 2) (hd : decode Y.2.1 pc = .ok (.invokestatic idx, 3)) {x y : Int} (hx : ax_r x) (hy : ax_r y) (hd1 : 1 ≤ d) (hLl : L.length = Y.2.2.1) (hcat : ((st.map axv).map fun v => v.category).sum ≤ 8) (kk : axX G f mc ms Q (pc + 3) L (vI (min x y) :: st) T N I R z k n) : axX G f mc ms Q pc L (vI y :: vI x :: st) T N I R z k n := by
  intro H locs ls hH hl hL hk hn
  have hts := hC.2.2.2.2.2.2.1
  have hRm := hC.2.2.2.2.2.2.2.2.2.1
  have e : (if Int32.ofInt y < Int32.ofInt x then Int32.ofInt y else Int32.ofInt x) = Int32.ofInt (min x y) := by
    by_cases h : y < x
    · rw [if_pos ((ax_lt hy hx).mpr h)]; congr 1; omega
    · rw [if_neg (fun q => h ((ax_lt hy hx).mp q))]; congr 1; omega
  have h9 := kk H locs ls hH hl hL hk hn
  have h8 : List.map axv (vI (min x y) :: st) = .int (if Int32.ofInt y < Int32.ofInt x then Int32.ofInt y else Int32.ofInt x) :: List.map axv st := by rw [e]; rfl
  rw [h8] at h9
  exact va_mmin hC.1 hC.2.1 (by rw [hL.1, hLl, hC.2.2.1]) hC.2.2.2.2.2.1 (hts _ hs.1) (hts _ hs.2.1) (hts _ hs.2.2.1) (hts _ hs.2.2.2.1) (by rw [hRm]; exact hd1) (by rw [hRm]; show _ + 13 ≤ 42 * d; omega) (by rw [hRm]; exact Nat.sub_le _ _) (by rw [hRm]; exact Nat.sub_le _ _) hd h9
end CX
theorem gp_X0_15 {n : Nat} (h : pT n) : axGet RX0 15 n 0 false := by rcases h with rfl | rfl | rfl <;> first | exact gf_X0_15_0 | exact gf_X0_15_1 | exact gf_X0_15_5
theorem gp_X1_15 {n : Nat} (h : pT n) : axGet RX1 15 n 0 false := by rcases h with rfl | rfl | rfl <;> first | exact gf_X1_15_0 | exact gf_X1_15_1 | exact gf_X1_15_5
theorem gp_X2_47 {n : Nat} (h : pT n) : axGet RX2 47 n 4 false := by rcases h with rfl | rfl | rfl <;> first | exact gf_X2_47_0 | exact gf_X2_47_1 | exact gf_X2_47_5
theorem pp_X5_9 {n : Nat} (h : pT n) : axPut RX5 9 n 0 true (.object "CarriedCommits$Trace") := by rcases h with rfl | rfl | rfl <;> first | exact pf_X5_9_0 | exact pf_X5_9_1 | exact pf_X5_9_5
theorem pp_X5_15 {n : Nat} (h : pT n) : axPut RX5 15 n 1 true .int := by rcases h with rfl | rfl | rfl <;> first | exact pf_X5_15_0 | exact pf_X5_15_1 | exact pf_X5_15_5
theorem pp_X5_19 {n : Nat} (h : pT n) : axPut RX5 19 n 2 true (.object "CarriedCommits$Plain") := by rcases h with rfl | rfl | rfl <;> first | exact pf_X5_19_0 | exact pf_X5_19_1 | exact pf_X5_19_5
theorem pp_X5_23 {n : Nat} (h : pT n) : axPut RX5 23 n 3 true (.object "CarriedCommits$Plain") := by rcases h with rfl | rfl | rfl <;> first | exact pf_X5_23_0 | exact pf_X5_23_1 | exact pf_X5_23_5
theorem pp_X5_26 {n : Nat} (h : pT n) : axPut RX5 26 n 4 false (.array .int) := by rcases h with rfl | rfl | rfl <;> first | exact pf_X5_26_0 | exact pf_X5_26_1 | exact pf_X5_26_5
theorem gp_X5_9 {n : Nat} (h : pT n) : axGet RX5 9 n 0 false := by rcases h with rfl | rfl | rfl <;> first | exact gf_X5_9_0 | exact gf_X5_9_1 | exact gf_X5_9_5
theorem gp_X5_26 {n : Nat} (h : pT n) : axGet RX5 26 n 4 false := by rcases h with rfl | rfl | rfl <;> first | exact gf_X5_26_0 | exact gf_X5_26_1 | exact gf_X5_26_5
theorem gp_X5_19 {n : Nat} (h : pT n) : axGet RX5 19 n 2 false := by rcases h with rfl | rfl | rfl <;> first | exact gf_X5_19_0 | exact gf_X5_19_1 | exact gf_X5_19_5
theorem gp_X5_15 {n : Nat} (h : pT n) : axGet RX5 15 n 1 true := by rcases h with rfl | rfl | rfl <;> first | exact gf_X5_15_0 | exact gf_X5_15_1 | exact gf_X5_15_5
theorem gp_X6_67 {n : Nat} (h : pT n) : axGet RX6 67 n 2 false := by rcases h with rfl | rfl | rfl <;> first | exact gf_X6_67_0 | exact gf_X6_67_1 | exact gf_X6_67_5
theorem gp_X11_120 {n : Nat} (h : pT n) : axGet RX11 120 n 1 true := by rcases h with rfl | rfl | rfl <;> first | exact gf_X11_120_0 | exact gf_X11_120_1 | exact gf_X11_120_5
theorem gp_X11_129 {n : Nat} (h : pT n) : axGet RX11 129 n 2 false := by rcases h with rfl | rfl | rfl <;> first | exact gf_X11_129_0 | exact gf_X11_129_1 | exact gf_X11_129_5
theorem gp_X11_133 {n : Nat} (h : pT n) : axGet RX11 133 n 4 false := by rcases h with rfl | rfl | rfl <;> first | exact gf_X11_133_0 | exact gf_X11_133_1 | exact gf_X11_133_5
theorem gp_X11_146 {n : Nat} (h : pT n) : axGet RX11 146 n 3 false := by rcases h with rfl | rfl | rfl <;> first | exact gf_X11_146_0 | exact gf_X11_146_1 | exact gf_X11_146_5
theorem gp_X11_324 {n : Nat} (h : pT n) : axGet RX11 324 n 5 true := by rcases h with rfl | rfl | rfl <;> first | exact gf_X11_324_0 | exact gf_X11_324_1 | exact gf_X11_324_5
theorem pp_X11_324 {n : Nat} (h : pT n) : axPut RX11 324 n 5 false .boolean := by rcases h with rfl | rfl | rfl <;> first | exact pf_X11_324_0 | exact pf_X11_324_1 | exact pf_X11_324_5
theorem pp_X11_133 {n : Nat} (h : pT n) : axPut RX11 133 n 4 false (.array .int) := by rcases h with rfl | rfl | rfl <;> first | exact pf_X11_133_0 | exact pf_X11_133_1 | exact pf_X11_133_5
theorem cq_X2_41 {n : Nat} (h : pT n) : axCalU RX2 41 n "CarriedCommits$Plain" ⟨"CarriedCommits$Plain", "parentRow", "()[I"⟩ YX5_parentRow 0 := by rcases h with rfl | rfl | rfl <;> first | exact cu_X2_41_0 | exact cu_X2_41_1 | exact cu_X2_41_5
theorem cq_X5_36 {n : Nat} (h : pT n) : axCalU RX5 36 n "CarriedCommits$Plain" ⟨"CarriedCommits$Plain", "speakPlainly", "()I"⟩ YX5_speakPlainly 0 := by rcases h with rfl | rfl | rfl <;> first | exact cu_X5_36_0 | exact cu_X5_36_1 | exact cu_X5_36_5
theorem cq_X5_40 {n : Nat} (h : pT n) : axCalU RX5 40 n "CarriedCommits$Plain" ⟨"CarriedCommits$Plain", "isOnPathOf", "(LCarriedCommits$Plain;)Z"⟩ YX5_isOnPathOf 1 := by rcases h with rfl | rfl | rfl <;> first | exact cu_X5_40_0 | exact cu_X5_40_1 | exact cu_X5_40_5
theorem cq_X5_44 {n : Nat} (h : pT n) : axCalU RX5 44 n "CarriedCommits$Plain" ⟨"CarriedCommits$Plain", "pathLength", "()I"⟩ YX5_pathLength 0 := by rcases h with rfl | rfl | rfl <;> first | exact cu_X5_44_0 | exact cu_X5_44_1 | exact cu_X5_44_5
theorem cq_X6_63 {n : Nat} (h : pT n) : axCalU RX6 63 n "CarriedCommits$Plain" ⟨"CarriedCommits$Plain", "isOnPathOf", "(LCarriedCommits$Plain;)Z"⟩ YX5_isOnPathOf 1 := by rcases h with rfl | rfl | rfl <;> first | exact cu_X6_63_0 | exact cu_X6_63_1 | exact cu_X6_63_5
theorem cq_X11_143 {n : Nat} (h : pT n) : axCalU RX11 143 n "CarriedCommits$Plain" ⟨"CarriedCommits$Plain", "pathLength", "()I"⟩ YX5_pathLength 0 := by rcases h with rfl | rfl | rfl <;> first | exact cu_X11_143_0 | exact cu_X11_143_1 | exact cu_X11_143_5
theorem cq_X11_179 {n : Nat} (h : pT n) : axCalU RX11 179 n "CarriedCommits$Plain" ⟨"CarriedCommits$Plain", "isOnPathOf", "(LCarriedCommits$Plain;)Z"⟩ YX5_isOnPathOf 1 := by rcases h with rfl | rfl | rfl <;> first | exact cu_X11_179_0 | exact cu_X11_179_1 | exact cu_X11_179_5
theorem cq_X11_183 {n : Nat} (h : pT n) : axCalU RX11 183 n "CarriedCommits$Plain" ⟨"CarriedCommits$Plain", "countNotOnPathOf", "(LCarriedCommits$Plain;)I"⟩ YX5_countNotOnPathOf 1 := by rcases h with rfl | rfl | rfl <;> first | exact cu_X11_183_0 | exact cu_X11_183_1 | exact cu_X11_183_5
theorem cq_X11_315 {n : Nat} (h : pT n) : axCalU RX11 315 n "CarriedCommits$Plain" ⟨"CarriedCommits$Plain", "pathNumbers", "()[I"⟩ YX5_pathNumbers 0 := by rcases h with rfl | rfl | rfl <;> first | exact cu_X11_315_0 | exact cu_X11_315_1 | exact cu_X11_315_5
theorem cq_X11_387 {n : Nat} (h : pT n) : axCalU RX11 387 n "CarriedCommits$Plain" ⟨"CarriedCommits$Plain", "parentRow", "()[I"⟩ YX5_parentRow 0 := by rcases h with rfl | rfl | rfl <;> first | exact cu_X11_387_0 | exact cu_X11_387_1 | exact cu_X11_387_5
/-! parts -/
/-- a part stands for a list -/
def ptS (T : Nat → Nat) (N : Nat → Int) (I : Nat → Int → Int) (R : Nat → Int → Option Nat) (p : Nat) (L : List Int) : Prop := T p = 4 ∧ ∃ r, R p 0 = some r ∧ T r = 13 ∧ N r ≤ 100000 ∧ 0 ≤ I p 1 ∧ 0 ≤ I p 2 ∧ I p 1 + I p 2 ≤ N r ∧ seg (I r) (I p 1) (I p 1 + I p 2) = L
theorem ptS_len {T : Nat → Nat} {N : Nat → Int} {I : Nat → Int → Int} {R : Nat → Int → Option Nat} {p : Nat} {L : List Int} (h : ptS T N I R p L) : I p 2 = L.length := by
  obtain ⟨-, r, -, -, -, h1, h2, h3, h4⟩ := h
  rw [← h4, seg_len]; omega

set_option maxHeartbeats 4000000 in
set_option maxRecDepth 100000 in
theorem c_setTo {G : ax_G} {T : Nat → Nat} {N : Nat → Int} {I : Nat → Int → Int} {R : Nat → Int → Option Nat} {z : Nat} {p r : Nat} {i e : Int} (hp : T p = 4) (hr : T r = 13) (hN : N r ≤ 100000) (hi : 0 ≤ i) (hie : i ≤ e) (he : e ≤ N r) : axR G YX4_setTo 0 [vR p, vR r, vI i, vI e] T N I R z (fun r1 I1 R1 => r1 = none ∧ I1 = ax_u (ax_u I p 1 i) p 2 (e - i) ∧ R1 = ax_u R p 0 (some r)) := by

  refine ax_enter (by decide) (Nat.le_of_ble_eq_true rfl) (ax_cat rfl) (fun f hC => ?_)
  show axX G f 0 0 _ 0 [vR p, vR r, vI i, vI e, vU] [] T N I R z 0 0
  refine x_iload_n (pc := 0) hC dX4_setTo_0 rfl ?_
  refine x_if_lt (pc := 1) hC 19 dX4_setTo_1 (by decide) (by omega) (fun b1 => ?_) (fun b1 => ?_)
  · refine x_iconst (pc := 19) hC dX4_setTo_19 ?_
    refine x_istore (pc := 20) hC dX4_setTo_20 (Nat.le_of_ble_eq_true rfl) ?_
    dsimp only [List.set]
    refine x_aload_n (pc := 22) hC dX4_setTo_22 rfl ?_
    refine x_aload_n (pc := 23) hC dX4_setTo_23 rfl ?_
    refine x_putO (pc := 24) hC pf_X4_13 dX4_setTo_24 (Or.inr ⟨_, rfl⟩) hp (by decide) ?_
    refine x_aload_n (pc := 27) hC dX4_setTo_27 rfl ?_
    refine x_iload (pc := 28) hC dX4_setTo_28 rfl ?_
    refine x_if_eq (pc := 30) hC 37 dX4_setTo_30 (by decide) (by omega) (fun b30 => ?_) (fun b30 => ?_)
    · refine x_iconst (pc := 37) hC dX4_setTo_37 ?_
      refine x_putI (pc := 38) hC pf_X4_18 dX4_setTo_38 hp (by decide) ?_
      refine x_aload_n (pc := 41) hC dX4_setTo_41 rfl ?_
      refine x_iload (pc := 42) hC dX4_setTo_42 rfl ?_
      refine x_if_eq (pc := 44) hC 53 dX4_setTo_44 (by decide) (by omega) (fun b44 => ?_) (fun b44 => ?_)
      · refine x_iconst (pc := 53) hC dX4_setTo_53 ?_
        refine x_putI (pc := 54) hC pf_X4_22 dX4_setTo_54 hp (by decide) ?_
        refine x_vret (pc := 57) hC rfl dX4_setTo_57 ?_
        first
        | exact ⟨⟨rfl, rfl, rfl⟩, rfl, rfl, rfl⟩
        | (exfalso; omega)
      · refine x_iload_n (pc := 47) hC dX4_setTo_47 rfl ?_
        refine x_iload_n (pc := 48) hC dX4_setTo_48 rfl ?_
        refine x_isub (pc := 49) hC dX4_setTo_49 ?_
        refine x_goto (pc := 50) hC 54 dX4_setTo_50 (by decide) ?_
        refine x_putI (pc := 54) hC pf_X4_22 dX4_setTo_54 hp (by decide) ?_
        refine x_vret (pc := 57) hC rfl dX4_setTo_57 ?_
        first
        | exact ⟨⟨rfl, rfl, rfl⟩, rfl, rfl, rfl⟩
        | (exfalso; omega)
    · refine x_iload_n (pc := 33) hC dX4_setTo_33 rfl ?_
      refine x_goto (pc := 34) hC 38 dX4_setTo_34 (by decide) ?_
      refine x_putI (pc := 38) hC pf_X4_18 dX4_setTo_38 hp (by decide) ?_
      refine x_aload_n (pc := 41) hC dX4_setTo_41 rfl ?_
      refine x_iload (pc := 42) hC dX4_setTo_42 rfl ?_
      refine x_if_eq (pc := 44) hC 53 dX4_setTo_44 (by decide) (by omega) (fun b44 => ?_) (fun b44 => ?_)
      · refine x_iconst (pc := 53) hC dX4_setTo_53 ?_
        refine x_putI (pc := 54) hC pf_X4_22 dX4_setTo_54 hp (by decide) ?_
        refine x_vret (pc := 57) hC rfl dX4_setTo_57 ?_
        first
        | exact ⟨⟨rfl, rfl, rfl⟩, rfl, rfl, rfl⟩
        | (exfalso; omega)
      · refine x_iload_n (pc := 47) hC dX4_setTo_47 rfl ?_
        refine x_iload_n (pc := 48) hC dX4_setTo_48 rfl ?_
        refine x_isub (pc := 49) hC dX4_setTo_49 ?_
        refine x_goto (pc := 50) hC 54 dX4_setTo_50 (by decide) ?_
        refine x_putI (pc := 54) hC pf_X4_22 dX4_setTo_54 hp (by decide) ?_
        refine x_vret (pc := 57) hC rfl dX4_setTo_57 ?_
        first
        | exact ⟨⟨rfl, rfl, rfl⟩, rfl, rfl, rfl⟩
        | (exfalso; omega)
  · refine x_iload_n (pc := 4) hC dX4_setTo_4 rfl ?_
    refine x_iload_n (pc := 5) hC dX4_setTo_5 rfl ?_
    refine x_icmp_gt (pc := 6) hC 19 dX4_setTo_6 (by decide) (by omega) (by omega) (fun b6 => ?_) (fun b6 => ?_)
    · refine x_iconst (pc := 19) hC dX4_setTo_19 ?_
      refine x_istore (pc := 20) hC dX4_setTo_20 (Nat.le_of_ble_eq_true rfl) ?_
      dsimp only [List.set]
      refine x_aload_n (pc := 22) hC dX4_setTo_22 rfl ?_
      refine x_aload_n (pc := 23) hC dX4_setTo_23 rfl ?_
      refine x_putO (pc := 24) hC pf_X4_13 dX4_setTo_24 (Or.inr ⟨_, rfl⟩) hp (by decide) ?_
      refine x_aload_n (pc := 27) hC dX4_setTo_27 rfl ?_
      refine x_iload (pc := 28) hC dX4_setTo_28 rfl ?_
      refine x_if_eq (pc := 30) hC 37 dX4_setTo_30 (by decide) (by omega) (fun b30 => ?_) (fun b30 => ?_)
      · refine x_iconst (pc := 37) hC dX4_setTo_37 ?_
        refine x_putI (pc := 38) hC pf_X4_18 dX4_setTo_38 hp (by decide) ?_
        refine x_aload_n (pc := 41) hC dX4_setTo_41 rfl ?_
        refine x_iload (pc := 42) hC dX4_setTo_42 rfl ?_
        refine x_if_eq (pc := 44) hC 53 dX4_setTo_44 (by decide) (by omega) (fun b44 => ?_) (fun b44 => ?_)
        · refine x_iconst (pc := 53) hC dX4_setTo_53 ?_
          refine x_putI (pc := 54) hC pf_X4_22 dX4_setTo_54 hp (by decide) ?_
          refine x_vret (pc := 57) hC rfl dX4_setTo_57 ?_
          first
          | exact ⟨⟨rfl, rfl, rfl⟩, rfl, rfl, rfl⟩
          | (exfalso; omega)
        · refine x_iload_n (pc := 47) hC dX4_setTo_47 rfl ?_
          refine x_iload_n (pc := 48) hC dX4_setTo_48 rfl ?_
          refine x_isub (pc := 49) hC dX4_setTo_49 ?_
          refine x_goto (pc := 50) hC 54 dX4_setTo_50 (by decide) ?_
          refine x_putI (pc := 54) hC pf_X4_22 dX4_setTo_54 hp (by decide) ?_
          refine x_vret (pc := 57) hC rfl dX4_setTo_57 ?_
          first
          | exact ⟨⟨rfl, rfl, rfl⟩, rfl, rfl, rfl⟩
          | (exfalso; omega)
      · refine x_iload_n (pc := 33) hC dX4_setTo_33 rfl ?_
        refine x_goto (pc := 34) hC 38 dX4_setTo_34 (by decide) ?_
        refine x_putI (pc := 38) hC pf_X4_18 dX4_setTo_38 hp (by decide) ?_
        refine x_aload_n (pc := 41) hC dX4_setTo_41 rfl ?_
        refine x_iload (pc := 42) hC dX4_setTo_42 rfl ?_
        refine x_if_eq (pc := 44) hC 53 dX4_setTo_44 (by decide) (by omega) (fun b44 => ?_) (fun b44 => ?_)
        · refine x_iconst (pc := 53) hC dX4_setTo_53 ?_
          refine x_putI (pc := 54) hC pf_X4_22 dX4_setTo_54 hp (by decide) ?_
          refine x_vret (pc := 57) hC rfl dX4_setTo_57 ?_
          first
          | exact ⟨⟨rfl, rfl, rfl⟩, rfl, rfl, rfl⟩
          | (exfalso; omega)
        · refine x_iload_n (pc := 47) hC dX4_setTo_47 rfl ?_
          refine x_iload_n (pc := 48) hC dX4_setTo_48 rfl ?_
          refine x_isub (pc := 49) hC dX4_setTo_49 ?_
          refine x_goto (pc := 50) hC 54 dX4_setTo_50 (by decide) ?_
          refine x_putI (pc := 54) hC pf_X4_22 dX4_setTo_54 hp (by decide) ?_
          refine x_vret (pc := 57) hC rfl dX4_setTo_57 ?_
          first
          | exact ⟨⟨rfl, rfl, rfl⟩, rfl, rfl, rfl⟩
          | (exfalso; omega)
    · refine x_iload_n (pc := 9) hC dX4_setTo_9 rfl ?_
      refine x_aload_n (pc := 10) hC dX4_setTo_10 rfl ?_
      refine x_alen (pc := 11) hC dX4_setTo_11 (by rw [hr]; decide) (by rw [hr]; decide) ?_
      refine x_icmp_gt (pc := 12) hC 19 dX4_setTo_12 (by decide) (by omega) (by omega) (fun b12 => ?_) (fun b12 => ?_)
      · refine x_iconst (pc := 19) hC dX4_setTo_19 ?_
        refine x_istore (pc := 20) hC dX4_setTo_20 (Nat.le_of_ble_eq_true rfl) ?_
        dsimp only [List.set]
        refine x_aload_n (pc := 22) hC dX4_setTo_22 rfl ?_
        refine x_aload_n (pc := 23) hC dX4_setTo_23 rfl ?_
        refine x_putO (pc := 24) hC pf_X4_13 dX4_setTo_24 (Or.inr ⟨_, rfl⟩) hp (by decide) ?_
        refine x_aload_n (pc := 27) hC dX4_setTo_27 rfl ?_
        refine x_iload (pc := 28) hC dX4_setTo_28 rfl ?_
        refine x_if_eq (pc := 30) hC 37 dX4_setTo_30 (by decide) (by omega) (fun b30 => ?_) (fun b30 => ?_)
        · refine x_iconst (pc := 37) hC dX4_setTo_37 ?_
          refine x_putI (pc := 38) hC pf_X4_18 dX4_setTo_38 hp (by decide) ?_
          refine x_aload_n (pc := 41) hC dX4_setTo_41 rfl ?_
          refine x_iload (pc := 42) hC dX4_setTo_42 rfl ?_
          refine x_if_eq (pc := 44) hC 53 dX4_setTo_44 (by decide) (by omega) (fun b44 => ?_) (fun b44 => ?_)
          · refine x_iconst (pc := 53) hC dX4_setTo_53 ?_
            refine x_putI (pc := 54) hC pf_X4_22 dX4_setTo_54 hp (by decide) ?_
            refine x_vret (pc := 57) hC rfl dX4_setTo_57 ?_
            first
            | exact ⟨⟨rfl, rfl, rfl⟩, rfl, rfl, rfl⟩
            | (exfalso; omega)
          · refine x_iload_n (pc := 47) hC dX4_setTo_47 rfl ?_
            refine x_iload_n (pc := 48) hC dX4_setTo_48 rfl ?_
            refine x_isub (pc := 49) hC dX4_setTo_49 ?_
            refine x_goto (pc := 50) hC 54 dX4_setTo_50 (by decide) ?_
            refine x_putI (pc := 54) hC pf_X4_22 dX4_setTo_54 hp (by decide) ?_
            refine x_vret (pc := 57) hC rfl dX4_setTo_57 ?_
            first
            | exact ⟨⟨rfl, rfl, rfl⟩, rfl, rfl, rfl⟩
            | (exfalso; omega)
        · refine x_iload_n (pc := 33) hC dX4_setTo_33 rfl ?_
          refine x_goto (pc := 34) hC 38 dX4_setTo_34 (by decide) ?_
          refine x_putI (pc := 38) hC pf_X4_18 dX4_setTo_38 hp (by decide) ?_
          refine x_aload_n (pc := 41) hC dX4_setTo_41 rfl ?_
          refine x_iload (pc := 42) hC dX4_setTo_42 rfl ?_
          refine x_if_eq (pc := 44) hC 53 dX4_setTo_44 (by decide) (by omega) (fun b44 => ?_) (fun b44 => ?_)
          · refine x_iconst (pc := 53) hC dX4_setTo_53 ?_
            refine x_putI (pc := 54) hC pf_X4_22 dX4_setTo_54 hp (by decide) ?_
            refine x_vret (pc := 57) hC rfl dX4_setTo_57 ?_
            first
            | exact ⟨⟨rfl, rfl, rfl⟩, rfl, rfl, rfl⟩
            | (exfalso; omega)
          · refine x_iload_n (pc := 47) hC dX4_setTo_47 rfl ?_
            refine x_iload_n (pc := 48) hC dX4_setTo_48 rfl ?_
            refine x_isub (pc := 49) hC dX4_setTo_49 ?_
            refine x_goto (pc := 50) hC 54 dX4_setTo_50 (by decide) ?_
            refine x_putI (pc := 54) hC pf_X4_22 dX4_setTo_54 hp (by decide) ?_
            refine x_vret (pc := 57) hC rfl dX4_setTo_57 ?_
            first
            | exact ⟨⟨rfl, rfl, rfl⟩, rfl, rfl, rfl⟩
            | (exfalso; omega)
      · refine x_iconst (pc := 15) hC dX4_setTo_15 ?_
        refine x_goto (pc := 16) hC 20 dX4_setTo_16 (by decide) ?_
        refine x_istore (pc := 20) hC dX4_setTo_20 (Nat.le_of_ble_eq_true rfl) ?_
        dsimp only [List.set]
        refine x_aload_n (pc := 22) hC dX4_setTo_22 rfl ?_
        refine x_aload_n (pc := 23) hC dX4_setTo_23 rfl ?_
        refine x_putO (pc := 24) hC pf_X4_13 dX4_setTo_24 (Or.inr ⟨_, rfl⟩) hp (by decide) ?_
        refine x_aload_n (pc := 27) hC dX4_setTo_27 rfl ?_
        refine x_iload (pc := 28) hC dX4_setTo_28 rfl ?_
        refine x_if_eq (pc := 30) hC 37 dX4_setTo_30 (by decide) (by omega) (fun b30 => ?_) (fun b30 => ?_)
        · refine x_iconst (pc := 37) hC dX4_setTo_37 ?_
          refine x_putI (pc := 38) hC pf_X4_18 dX4_setTo_38 hp (by decide) ?_
          refine x_aload_n (pc := 41) hC dX4_setTo_41 rfl ?_
          refine x_iload (pc := 42) hC dX4_setTo_42 rfl ?_
          refine x_if_eq (pc := 44) hC 53 dX4_setTo_44 (by decide) (by omega) (fun b44 => ?_) (fun b44 => ?_)
          · refine x_iconst (pc := 53) hC dX4_setTo_53 ?_
            refine x_putI (pc := 54) hC pf_X4_22 dX4_setTo_54 hp (by decide) ?_
            refine x_vret (pc := 57) hC rfl dX4_setTo_57 ?_
            first
            | exact ⟨⟨rfl, rfl, rfl⟩, rfl, rfl, rfl⟩
            | (exfalso; omega)
          · refine x_iload_n (pc := 47) hC dX4_setTo_47 rfl ?_
            refine x_iload_n (pc := 48) hC dX4_setTo_48 rfl ?_
            refine x_isub (pc := 49) hC dX4_setTo_49 ?_
            refine x_goto (pc := 50) hC 54 dX4_setTo_50 (by decide) ?_
            refine x_putI (pc := 54) hC pf_X4_22 dX4_setTo_54 hp (by decide) ?_
            refine x_vret (pc := 57) hC rfl dX4_setTo_57 ?_
            first
            | exact ⟨⟨rfl, rfl, rfl⟩, rfl, rfl, rfl⟩
            | (exfalso; omega)
        · refine x_iload_n (pc := 33) hC dX4_setTo_33 rfl ?_
          refine x_goto (pc := 34) hC 38 dX4_setTo_34 (by decide) ?_
          refine x_putI (pc := 38) hC pf_X4_18 dX4_setTo_38 hp (by decide) ?_
          refine x_aload_n (pc := 41) hC dX4_setTo_41 rfl ?_
          refine x_iload (pc := 42) hC dX4_setTo_42 rfl ?_
          refine x_if_eq (pc := 44) hC 53 dX4_setTo_44 (by decide) (by omega) (fun b44 => ?_) (fun b44 => ?_)
          · refine x_iconst (pc := 53) hC dX4_setTo_53 ?_
            refine x_putI (pc := 54) hC pf_X4_22 dX4_setTo_54 hp (by decide) ?_
            refine x_vret (pc := 57) hC rfl dX4_setTo_57 ?_
            first
            | exact ⟨⟨rfl, rfl, rfl⟩, rfl, rfl, rfl⟩
            | (exfalso; omega)
          · refine x_iload_n (pc := 47) hC dX4_setTo_47 rfl ?_
            refine x_iload_n (pc := 48) hC dX4_setTo_48 rfl ?_
            refine x_isub (pc := 49) hC dX4_setTo_49 ?_
            refine x_goto (pc := 50) hC 54 dX4_setTo_50 (by decide) ?_
            refine x_putI (pc := 54) hC pf_X4_22 dX4_setTo_54 hp (by decide) ?_
            refine x_vret (pc := 57) hC rfl dX4_setTo_57 ?_
            first
            | exact ⟨⟨rfl, rfl, rfl⟩, rfl, rfl, rfl⟩
            | (exfalso; omega)

set_option maxHeartbeats 4000000 in
set_option maxRecDepth 100000 in
theorem c_lineAt {G : ax_G} {T : Nat → Nat} {N : Nat → Int} {I : Nat → Int → Int} {R : Nat → Int → Option Nat} {z : Nat} {p : Nat} {i : Int} {L : List Int} (hp : ptS T N I R p L) (hi : ax_r i) (h0 : 0 ≤ i) : axE G YX4_lineAt 0 [vR p, vI i] T N I R z (some (vI (atO L i))) I := by

  refine ax_enter (by decide) (Nat.le_of_ble_eq_true rfl) (ax_cat rfl) (fun f hC => ?_)
  show axX G f 0 0 _ 0 [vR p, vI i] [] T N I R z 0 0
  have hl := ptS_len hp
  obtain ⟨hp, r, hr, ht, hN, h1, h2, h3, h4⟩ := hp
  have ha := atO_seg (f := I r) (i := I p 1) (j := I p 1 + I p 2) (k := i) (by omega) h0
  rw [h4] at ha
  refine x_iload_n (pc := 0) hC dX4_lineAt_0 rfl ?_
  refine x_if_lt (pc := 1) hC 26 dX4_lineAt_1 (by decide) (by omega) (fun b1 => ?_) (fun b1 => ?_)
  · refine x_bipush (pc := 26) hC dX4_lineAt_26 (by decide) ?_
    refine x_iret (pc := 28) hC rfl dX4_lineAt_28 ?_
    refine ⟨?_, rfl, rfl, rfl, rfl, rfl⟩
    rw [ha]
    first
    | (rw [if_pos (by omega)]; done)
    | (rw [if_neg (by omega)]; done)
    | (exfalso; omega)
  · refine x_iload_n (pc := 4) hC dX4_lineAt_4 rfl ?_
    refine x_aload_n (pc := 5) hC dX4_lineAt_5 rfl ?_
    refine x_getI (pc := 6) hC gf_X4_22 dX4_lineAt_6 hp ?_
    refine x_icmp_ge (pc := 9) hC 26 dX4_lineAt_9 (by decide) (by omega) (by omega) (fun b9 => ?_) (fun b9 => ?_)
    · refine x_bipush (pc := 26) hC dX4_lineAt_26 (by decide) ?_
      refine x_iret (pc := 28) hC rfl dX4_lineAt_28 ?_
      refine ⟨?_, rfl, rfl, rfl, rfl, rfl⟩
      rw [ha]
      first
      | (rw [if_pos (by omega)]; done)
      | (rw [if_neg (by omega)]; done)
      | (exfalso; omega)
    · refine x_aload_n (pc := 12) hC dX4_lineAt_12 rfl ?_
      refine x_getO (pc := 13) hC gf_X4_13 dX4_lineAt_13 hp hr ?_
      refine x_aload_n (pc := 16) hC dX4_lineAt_16 rfl ?_
      refine x_getI (pc := 17) hC gf_X4_18 dX4_lineAt_17 hp ?_
      refine x_iload_n (pc := 20) hC dX4_lineAt_20 rfl ?_
      refine x_iadd (pc := 21) hC dX4_lineAt_21 ?_
      refine x_iald (pc := 22) hC dX4_lineAt_22 ht (by omega) (by omega) ?_
      refine x_goto (pc := 23) hC 28 dX4_lineAt_23 (by decide) ?_
      refine x_iret (pc := 28) hC rfl dX4_lineAt_28 ?_
      refine ⟨?_, rfl, rfl, rfl, rfl, rfl⟩
      rw [ha]
      first
      | (rw [if_pos (by omega)]; done)
      | (rw [if_neg (by omega)]; done)
      | (exfalso; omega)

set_option maxHeartbeats 4000000 in
set_option maxRecDepth 100000 in
theorem c_equalsPart {G : ax_G} {T : Nat → Nat} {N : Nat → Int} {I : Nat → Int → Int} {R : Nat → Int → Option Nat} {z : Nat} {p q : Nat} {L M : List Int} (hp : ptS T N I R p L) (hq : ptS T N I R q M) (hL : isLn L) (hM : isLn M) : axE G YX4_equalsPart 1 [vR p, vR q] T N I R z (some (vI (bI (L = M)))) I := by

  refine ax_enter (by decide) (Nat.le_of_ble_eq_true rfl) (ax_cat rfl) (fun f hC => ?_)
  show axX G f 0 0 _ 0 [vR p, vR q, vU] [] T N I R z 0 0
  have hl := ptS_len hp
  have hm := ptS_len hq
  have hpt := hp.1
  have hqt := hq.1
  have hN : I p 2 ≤ 100000 ∧ I q 2 ≤ 100000 := by
    obtain ⟨-, r, -, -, h1, h2, h3, h4, -⟩ := hp
    obtain ⟨-, r', -, -, g1, g2, g3, g4, -⟩ := hq
    omega
  have atr : ∀ (L : List Int) (i : Int), isLn L → ax_r (atO L i) := fun L i h => by
    unfold atO
    split
    · rw [List.getD_eq_getElem?_getD]
      cases hg : L[i.toNat]? with
      | none => decide
      | some u =>
        have := h u (List.mem_of_getElem? hg)
        show ax_r u
        omega
    · decide
  have loop : L.length = M.length → ∀ (n : Nat) (x : Int), (L.length - x).toNat ≤ n → 0 ≤ x → x ≤ L.length → (∀ k : Int, 0 ≤ k → k < x → atO L k = atO M k) → axX G f 0 0 (fun r1 T1 N1 I1 R1 z1 => r1 = some (vI (bI (L = M))) ∧ T1 = T ∧ N1 = N ∧ I1 = I ∧ R1 = R ∧ z1 = z) 15 [vR p, vR q, vI x] [] T N I R z 0 0 := by
    intro hlen n
    have hyes : (∀ k : Int, 0 ≤ k → k < L.length → atO L k = atO M k) → L = M := fun h => by
      apply List.ext_getElem?
      intro k
      by_cases hk : k < L.length
      · have := h k (by omega) (by omega)
        unfold atO at this
        rw [if_pos (by omega), if_pos (by omega), Int.toNat_natCast, List.getD_eq_getElem?_getD, List.getD_eq_getElem?_getD, List.getElem?_eq_getElem hk, List.getElem?_eq_getElem (by omega)] at this
        rw [List.getElem?_eq_getElem hk, List.getElem?_eq_getElem (by omega)]
        simpa using this
      · rw [List.getElem?_eq_none (by omega), List.getElem?_eq_none (by omega)]
    induction n with
    | zero =>
      intro x hn h0 h1 hk
      refine x_iload_n (pc := 15) hC dX4_equalsPart_15 rfl ?_
      refine x_aload_n (pc := 16) hC dX4_equalsPart_16 rfl ?_
      refine x_getI (pc := 17) hC gf_X4_22 dX4_equalsPart_17 hpt ?_
      refine x_icmp_ge (pc := 20) hC 44 dX4_equalsPart_20 (by decide) (by omega) (by omega) (fun b20 => ?_) (fun b20 => ?_)
      · refine x_iconst (pc := 44) hC dX4_equalsPart_44 ?_
        refine x_zret (pc := 45) hC rfl dX4_equalsPart_45 (Or.inr rfl) ?_
        exact ⟨by rw [bI_t (hyes (fun k a b => hk k a (by omega)))], rfl, rfl, rfl, rfl, rfl⟩
      · omega
    | succ n ih =>
      intro x hn h0 h1 hk
      have r1 := atr L x hL
      have r2 := atr M x hM
      refine x_iload_n (pc := 15) hC dX4_equalsPart_15 rfl ?_
      refine x_aload_n (pc := 16) hC dX4_equalsPart_16 rfl ?_
      refine x_getI (pc := 17) hC gf_X4_22 dX4_equalsPart_17 hpt ?_
      refine x_icmp_ge (pc := 20) hC 44 dX4_equalsPart_20 (by decide) (by omega) (by omega) (fun b20 => ?_) (fun b20 => ?_)
      · refine x_iconst (pc := 44) hC dX4_equalsPart_44 ?_
        refine x_zret (pc := 45) hC rfl dX4_equalsPart_45 (Or.inr rfl) ?_
        exact ⟨by rw [bI_t (hyes (fun k a b => hk k a (by omega)))], rfl, rfl, rfl, rfl, rfl⟩
      · refine x_aload_n (pc := 23) hC dX4_equalsPart_23 rfl ?_
        refine x_iload_n (pc := 24) hC dX4_equalsPart_24 rfl ?_
        refine x_mV (pc := 25) hC cv_X4_25 dX4_equalsPart_25 (c_lineAt hp (by omega) h0) hpt rfl (by decide) rfl rfl (Nat.le_of_ble_eq_true rfl) ?_
        refine x_aload_n (pc := 28) hC dX4_equalsPart_28 rfl ?_
        refine x_iload_n (pc := 29) hC dX4_equalsPart_29 rfl ?_
        refine x_mV (pc := 30) hC cv_X4_25 dX4_equalsPart_30 (c_lineAt hq (by omega) h0) hqt rfl (by decide) rfl rfl (Nat.le_of_ble_eq_true rfl) ?_
        refine x_icmp_eq (pc := 33) hC 38 dX4_equalsPart_33 (by decide) (by omega) (by omega) (fun b33 => ?_) (fun b33 => ?_)
        · refine x_iinc (pc := 38) hC dX4_equalsPart_38 rfl ?_
          dsimp only [List.set]
          refine x_goto (pc := 41) hC 15 dX4_equalsPart_41 (by decide) ?_
          refine ih (x + 1) (by omega) (by omega) (by omega) (fun k a1 a2 => ?_)
          by_cases hkx : k = x
          · rw [hkx]; assumption
          · exact hk k a1 (by omega)
        · refine x_iconst (pc := 36) hC dX4_equalsPart_36 ?_
          refine x_zret (pc := 37) hC rfl dX4_equalsPart_37 (Or.inl rfl) ?_
          exact ⟨by rw [bI_f (fun h => b33 (by rw [h]))], rfl, rfl, rfl, rfl, rfl⟩
  refine x_aload_n (pc := 0) hC dX4_equalsPart_0 rfl ?_
  refine x_getI (pc := 1) hC gf_X4_22 dX4_equalsPart_1 hpt ?_
  refine x_aload_n (pc := 4) hC dX4_equalsPart_4 rfl ?_
  refine x_getI (pc := 5) hC gf_X4_22 dX4_equalsPart_5 hqt ?_
  refine x_icmp_eq (pc := 8) hC 13 dX4_equalsPart_8 (by decide) (by omega) (by omega) (fun b8 => ?_) (fun b8 => ?_)
  · refine x_iconst (pc := 13) hC dX4_equalsPart_13 ?_
    refine x_istore_n (pc := 14) hC dX4_equalsPart_14 (Nat.le_of_ble_eq_true rfl) ?_
    dsimp only [List.set]
    exact loop (by omega) _ 0 (Nat.le_refl _) (by omega) (by omega) (fun k a1 a2 => by omega)
  · refine x_iconst (pc := 11) hC dX4_equalsPart_11 ?_
    refine x_zret (pc := 12) hC rfl dX4_equalsPart_12 (Or.inl rfl) ?_
    exact ⟨by rw [bI_f (fun h => by rw [h] at hl; omega)], rfl, rfl, rfl, rfl, rfl⟩

