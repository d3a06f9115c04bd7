/-! THE PLAIN MACHINE, 5: clone, copies, casts -/
section AXD
variable {G : ax_G} {f : ax_F} {Y : ax_Y} {own : String} {d mc ms : Nat} {Q : ax_P} {pc : Nat} {L st : List ax_V} {T : Nat → Nat} {N : Nat → Int} {I : Nat → Int → Int} {R : Nat → Int → Option Nat} {z k n : Nat}
theorem ax_nmI (hC : axC G f Y own d mc ms) : f.2.2.2.1.vm.findClass "[I" = some (G.2.2.1 13) := (hC.2.2.2.2.2.2.2.1.1.2 0 (G.2.2.1 13, .int) rfl).2
/-- any int array as a cell -/
theorem axH.icell {H : Heap} {a : Nat} (h : axH G T N I R z H) (hO : axO G) (ht : T a = 13) : ∃ cell : Cell, H[a]? = some cell ∧ cell.cls = G.2.2.1 13 ∧ cell.vm.isStatics = false ∧ cell.vm ≠ .unknown ∧ cell.slots = (arrV (G.2.2.1 13) (N a).toNat (fun j => .int (Int32.ofInt (I a (j : Int))))).slots := by
  rcases h.2.2.1 a (by omega) with ⟨h1, h2, h3⟩ | ⟨h1, h2, h3⟩
  · obtain ⟨hO1, hO2, cell, c1, c2, c3, c4, c5⟩ := hO
    refine ⟨cell, by rw [h.2.2.2.1 a (by rw [h1]; exact hO1), h1]; exact c1, c2, c4, c5, ?_⟩
    apply Array.ext
    · rw [c3, arrV_size, h3]; rfl
    · intro i hi _
      omega
  · unfold axAt at h3
    rw [if_neg (by omega), if_pos ht] at h3
    exact ⟨_, h3, rfl, rfl, (fun q => by cases q), rfl⟩
set_option maxHeartbeats 1000000 in
theorem x_clone (hC : axC G f Y own d mc ms) {idx a : Nat} (h1 : Cond.methodLink own idx ⟨"[I", "clone", "()Ljava/lang/Object;"⟩ ∈ ax_tbl) (h2 : Cond.sameMethod "[I" "java/lang/Object" "clone" "()Ljava/lang/Object;" ∈ ax_tbl) (h3 : Cond.native ⟨"java/lang/Object", "clone", "()Ljava/lang/Object;"⟩ ∈ ax_tbl) (h4 : Cond.instanceMethod ⟨"java/lang/Object", "clone", "()Ljava/lang/Object;"⟩ ∈ ax_tbl)
    (h5 : Cond.selects "[I" ⟨"[I", "clone", "()Ljava/lang/Object;"⟩ ⟨"java/lang/Object", "clone", "()Ljava/lang/Object;"⟩ ∈ ax_tbl) (h6 : Cond.castable "[I" "java/lang/Cloneable" ∈ axNs) (hd : decode Y.2.1 pc = .ok (.invokevirtual idx, 3)) (ht : T a = 13) (hd1 : 1 ≤ d) (hLl : L.length = Y.2.2.1) (hst : ((st.map axv).map fun v => v.category).sum ≤ 8) (hk1 : 1 ≤ k) (hn1 : N a ≤ n)
    (kk : axX G f mc ms Q (pc + 3) L (vR z :: st) (ax_n T z 13) (ax_n N z (N a)) (ax_n I z (I a)) (ax_n R z (fun _ => none)) (z + 1) (k - 1) (n - (N a).toNat)) : axX G f mc ms Q pc L (vR a :: st) T N I R z k n := by
  intro H locs ls hH hl hL hk hn
  have hts := hC.2.2.2.2.2.2.1
  have hK := hC.2.2.2.2.2.2.2.1
  have hO := hC.2.2.2.2.2.2.2.2.1
  have hRm := hC.2.2.2.2.2.2.2.2.2.1
  have hrc : f.2.2.1.cells = mc := by rw [hRm]; rfl
  have hrs : f.2.2.1.slots = ms := by rw [hRm]; rfl
  have hN := hH.2.2.2.2 a
  obtain ⟨cell, c1, c2, c3, c4, c5⟩ := hH.icell hO ht
  have hsz : cell.slots.size = (N a).toNat := by rw [c5, arrV_size]
  obtain ⟨c0, t0', f1, f2, f3⟩ := Cond.castable_spec (va_Nw.use (A := f.2.2.2.2.2.1) rfl (hK.2.2.1 _ h6))
  cases (ax_nmI hC).symm.trans f1
  intro T0 hT X
  obtain ⟨-, kA, hkA, comp, hkind⟩ := State.isArrayOf_alike X.warmed.alike ((hK.1.2 0 (G.2.2.1 13, .int) rfl).1 0 (fun _ => .null))
  obtain ⟨-, kS, hkS, compS, hkindS⟩ := (hK.1.2 0 (G.2.2.1 13, .int) rfl).1 0 (fun _ => .null)
  obtain ⟨vm', X', st'⟩ := X.cloneArray hC.1 hC.2.2.2.2.2.1 (hts _ h1) (hts _ h2) (hts _ h3) (hts _ h4) (hts _ h5) (a := a) (cell := cell) (by rw [hT]; exact c1) (fun q h => by rw [h] at c3; cases c3) c4 (by rw [c2]; exact ax_nmI hC) f2 (by rw [c2]; exact f3)
    (fun i v hv => by
      rw [c2]
      have hk' : T0.vm.classes[G.2.2.1 13]? = some kA := hkA
      have hi : i < (N a).toNat := by rw [← hsz]; exact (Array.getElem?_eq_some_iff.mp hv).1
      rw [c5, arrV_read _ _ hi] at hv
      cases hv
      simp [State.fitsSlot, State.slotType?, hk', hkind, fits])
    (g := F0 f.2.2.2.2.1 pc ls (.ref a :: st.map axv)) rfl (by show ls.size = _; rw [hL.1, hLl, hC.2.2.1]) rfl (by rw [hC.2.1]; exact hd) (by rw [hRm]; exact hd1) (by rw [hRm]; show 2 * 0 + _ + 14 ≤ 42 * d; omega) (by rw [hrc]; omega) (by rw [hrs, hsz]; omega) (hloader := by rw [c2]; exact Vm.clonesLoader_of_array hkS hkindS)
  rw [hsz] at X'
  have ec : mc - k + 1 = mc - (k - 1) := by omega
  have en : ms - n + (N a).toNat = ms - (n - (N a).toNat) := by omega
  rw [ec, en] at X'
  have hz := hH.1
  have hcellE : ({ cls := cell.cls, slots := cell.slots } : Cell) = arrV (G.2.2.1 13) (N a).toNat (fun j => .int (Int32.ofInt (I a (j : Int)))) := by rw [c2, c5]; rfl
  rw [hcellE] at X' st'
  obtain ⟨t, b1, b2⟩ := kk (H.push (arrV (G.2.2.1 13) (N a).toNat (fun j => .int (Int32.ofInt (I a (j : Int)))))) locs ls (hH.push (by rw [Array.size_push, hz]) (fun q hq => by rw [Array.getElem?_push, if_neg (by omega)]) (fun b hb => axn_a hb) (fun b hb => axn_a hb) (fun b hb => axn_a hb) (fun b hb => axn_a hb) (by rw [axn_s]; exact hN) (by
    unfold axAt
    rw [axn_s, if_neg (by decide), if_pos rfl, axn_s, axn_s, ← hz, Array.getElem?_push_size])) hl hL (by omega) (by omega) ((T0.setVm vm').pushCell _) (by rw [← hT]; rfl) X'
  refine ⟨t, st' t ?_, b2⟩
  rw [hT, hz]
  exact b1
theorem x_castI (hC : axC G f Y own d mc ms) {idx a : Nat} (h1 : Cond.classLink own idx "[I" ∈ ax_tbl) (hd : decode Y.2.1 pc = .ok (.checkcast idx, 3)) (ht : T a = 13) (kk : axX G f mc ms Q (pc + 3) L (vR a :: st) T N I R z k n) : axX G f mc ms Q pc L (vR a :: st) T N I R z k n := by
  intro H locs ls hH hl hL hk hn
  obtain ⟨cell, c1, c2, c3, c4, c5⟩ := hH.icell hC.2.2.2.2.2.2.2.2.1 ht
  intro T0 hT X
  obtain ⟨vm', X', st'⟩ := X.checkcastYes hC.1 hC.2.2.2.2.2.1 (hC.2.2.2.2.2.2.1 _ h1) (by rw [hT]; exact c1) c3 (ax_nmI hC) (by rw [c2]; exact va_asg _ _) (g := F0 f.2.2.2.2.1 pc ls (.ref a :: st.map axv)) rfl rfl (by rw [hC.2.1]; exact hd)
  obtain ⟨t, a1, b1⟩ := kk H locs ls hH hl hL hk hn (T0.setVm vm') hT X'
  exact ⟨t, st' t a1, b1⟩
set_option maxHeartbeats 1000000 in
theorem x_acopy (hC : axC G f Y own d mc ms) {idx src dst : Nat} {sp dp len : Int} (h1 : Cond.methodLink own idx arraycopyName ∈ ax_tbl) (h2 : Cond.native arraycopyName ∈ ax_tbl) (h3 : Cond.static arraycopyName ∈ ax_tbl) (h4 : Cond.initialized "java/lang/System" ∈ ax_tbl) (hd : decode Y.2.1 pc = .ok (.invokestatic idx, 3)) (ht : T src = 13) (ht2 : T dst = 13) (hs0 : G.2.2.2.1 ≤ src) (hd0 : G.2.2.2.1 ≤ dst) (hsp : 0 ≤ sp) (hdp : 0 ≤ dp) (hlen : 0 ≤ len) (hse : sp + len ≤ N src) (hde : dp + len ≤ N dst) (hd1 : 1 ≤ d) (hLl : L.length = Y.2.2.1) (hst : ((st.map axv).map fun v => v.category).sum ≤ 8)
    (kk : axX G f mc ms Q (pc + 3) L st T N (ax_c I src sp dst dp len) R z k n) : axX G f mc ms Q pc L (vI len :: vI dp :: vR dst :: vI sp :: vR src :: st) T N I R z k n := by
  intro H locs ls hH hl hL hk hn
  have hts := hC.2.2.2.2.2.2.1
  have hK := hC.2.2.2.2.2.2.2.1
  have hO := hC.2.2.2.2.2.2.2.2.1
  have hRm := hC.2.2.2.2.2.2.2.2.2.1
  have hNs := hH.2.2.2.2 src
  have hNd := hH.2.2.2.2 dst
  obtain ⟨-, -, hc0⟩ := hH.arrB ht hO hs0
  obtain ⟨ha1, ha2, hc1⟩ := hH.arrB ht2 hO hd0
  have rs : ax_r sp := ⟨by omega, by omega⟩
  have rd : ax_r dp := ⟨by omega, by omega⟩
  have rl : ax_r len := ⟨by omega, by omega⟩
  have es := ax_clamp rs
  have ed := ax_clamp rd
  have el := ax_clamp rl
  have hr13 := (hK.1.2 0 (G.2.2.1 13, .int) rfl).1
  have hlt0 : ∀ {w : Int}, ax_r w → 0 ≤ w → ¬ Int32.ofInt w < 0 := fun hr h0 h => by rw [ax_0, ax_lt hr ax_r0] at h; omega
  obtain ⟨-, k0, hk0, cm0, hkk0⟩ := hr13 0 (fun _ => .null)
  intro T0 hT X
  obtain ⟨vm', X', step⟩ := X.arraycopy hC.1 hC.2.2.2.2.2.1 (hts _ h1) (hts _ h2) (hts _ h3) (hts _ h4) (src := src) (dst := dst) (cs := arrV (G.2.2.1 13) (N src).toNat (fun j => .int (Int32.ofInt (I src (j : Int))))) (cd := arrV (G.2.2.1 13) (N dst).toNat (fun j => .int (Int32.ofInt (I dst (j : Int))))) (srcPos := Int32.ofInt sp) (destPos := Int32.ofInt dp) (n := Int32.ofInt len) (by rw [hT]; exact hc0) (by rw [hT]; exact hc1)
    (fun _ h => by cases h) (fun _ h => by cases h) (fun h => by cases h) (fun h => by cases h) hk0 hk0 hkk0 hkk0 (by simp [refKind]) (hlt0 rs hsp) (hlt0 rd hdp) (hlt0 rl hlen)
    (by rw [ax_toInt rs, ax_toInt rl, arrV_size]; omega)
    (by rw [ax_toInt rd, ax_toInt rl, arrV_size]; omega)
    (fun vm₁ _ i hi => by
      have e : (arrV (G.2.2.1 13) (N src).toNat (fun j => Value.int (Int32.ofInt (I src (j : Int))))).slots.getD ((Int32.ofInt sp).toNatClampNeg + i) .null = .int (Int32.ofInt (I src (((Int32.ofInt sp).toNatClampNeg + i : Nat) : Int))) := by
        rw [Array.getD_eq_getD_getElem?, arrV_read _ _ (by rw [es]; rw [el] at hi; omega)]
        rfl
      refine ⟨?_, ?_⟩
      · rw [e]
        rfl
      · rw [e]
        exact trivial)
    (g := F0 f.2.2.2.2.1 pc ls (.int (Int32.ofInt len) :: .int (Int32.ofInt dp) :: .ref dst :: .int (Int32.ofInt sp) :: .ref src :: st.map axv)) rfl (by show ls.size = _; rw [hL.1, hLl, hC.2.2.1]) (rest := st.map axv) rfl (by rw [hC.2.1]; exact hd) (by rw [hRm]; exact hd1) (by rw [hRm]; show 2 * 0 + _ + _ ≤ 42 * d; have : nativeFrameWords "java/lang/System" "arraycopy" 5 = 7 := by decide
                                                                                                                                                                                                                                                                                      omega)
  have e1 : copied (arrV (G.2.2.1 13) (N src).toNat (fun j => Value.int (Int32.ofInt (I src (j : Int))))) (arrV (G.2.2.1 13) (N dst).toNat (fun j => Value.int (Int32.ofInt (I dst (j : Int))))) (Int32.ofInt sp) (Int32.ofInt dp) (Int32.ofInt len) = arrV (G.2.2.1 13) (N dst).toNat (fun j => .int (va_cpy (fun j => Int32.ofInt (I src (j : Int))) (fun j => Int32.ofInt (I dst (j : Int))) (Int32.ofInt sp).toNatClampNeg (Int32.ofInt dp).toNatClampNeg (Int32.ofInt len).toNatClampNeg j)) :=
    va_copied (fun z => .int z) (G.2.2.1 13) (G.2.2.1 13) (fun j => Int32.ofInt (I src (j : Int))) (fun j => Int32.ofInt (I dst (j : Int))) (by rw [es, el]; omega)
  rw [e1, es, ed, el] at X'
  rw [e1, es, ed, el] at step
  have hz := hH.1
  have hl2 : dst < H.size := by omega
  obtain ⟨t, a1, b1⟩ := kk (H.setIfInBounds dst (arrV (G.2.2.1 13) (N dst).toNat (fun j => .int (va_cpy (fun j => Int32.ofInt (I src (j : Int))) (fun j => Int32.ofInt (I dst (j : Int))) sp.toNat dp.toNat len.toNat j)))) _ ls (hH.set (by simp) ha1 ha2 (fun q hq => by simp [Array.getElem?_setIfInBounds, Ne.symm hq]) (fun b hb => by funext j; simp [ax_c, hb]) (fun _ _ => rfl) (by
      unfold axAt
      rw [if_neg (by omega), if_pos ht2]
      rw [Array.getElem?_setIfInBounds, if_pos rfl, if_pos hl2]
      congr 2
      funext q
      by_cases hq : dp ≤ (q : Int) ∧ (q : Int) < dp + len
      · have hq2 : dp.toNat ≤ q ∧ q < dp.toNat + len.toNat := by omega
        have e9 : ((sp.toNat + (q - dp.toNat) : Nat) : Int) = sp + ((q : Int) - dp) := by omega
        simp only [va_cpy, if_pos hq2, ax_c, e9]
        simp [hq]
      · have hq2 : ¬ (dp.toNat ≤ q ∧ q < dp.toNat + len.toNat) := by omega
        simp only [va_cpy, if_neg hq2, ax_c]
        simp [hq])) (fun q hq => by
      rcases List.mem_append.mp hq with h | h
      · exact hl q h
      · obtain ⟨w, -, hw⟩ := List.mem_map.mp h
        rw [← hw]
        exact ha1) hL hk hn _ (by rw [← hT]; rfl) X'
  exact ⟨t, step t a1, b1⟩
theorem x_instN (hC : axC G f Y own d mc ms) {idx : Nat} (hd : decode Y.2.1 pc = .ok (.instanceof idx, 3)) (kk : axX G f mc ms Q (pc + 3) L (vI 0 :: st) T N I R z k n) : axX G f mc ms Q pc L (vN :: st) T N I R z k n :=
  axX.go (fun H locs ls cells slots Q0 hL k => lv_instN hC.1 hC.2.1 hd (k ls hL)) kk
theorem x_inst1 (hC : axC G f Y own d mc ms) {idx a ci : Nat} {nm C : String} {Tb : u_T} {nf : Nat} {ty : Nat → FieldType} (hcl : axCls ci C Tb nf ty) (h1 : Cond.classLink own idx nm ∈ ax_tbl) (h2 : C = nm ∨ Cond.castable C nm ∈ axNs) (hd : decode Y.2.1 pc = .ok (.instanceof idx, 3)) (ht : T a = ci) (kk : axX G f mc ms Q (pc + 3) L (vI 1 :: st) T N I R z k n) : axX G f mc ms Q pc L (vR a :: st) T N I R z k n := by
  intro H locs ls hH hl hL hk hn
  have hr := ax_recv hC hcl hH ht
  rcases h2 with rfl | h2
  · exact va_instS hC.1 hC.2.1 hC.2.2.2.2.2.1 (hC.2.2.2.2.2.2.1 _ h1) (hC.2.2.2.2.2.2.2.1.1.1 ci _ hcl.1).2 hr hd (kk H locs ls hH hl hL hk hn)
  · exact va_instY hC.1 hC.2.1 hC.2.2.2.2.2.1 (hC.2.2.2.2.2.2.1 _ h1) (hC.2.2.2.2.2.2.2.1.2.2.1 _ h2) hr hd (kk H locs ls hH hl hL hk hn)
theorem x_inst0 (hC : axC G f Y own d mc ms) {idx a ci : Nat} {nm C : String} {Tb : u_T} {nf : Nat} {ty : Nat → FieldType} (hcl : axCls ci C Tb nf ty) (h1 : Cond.classLink own idx nm ∈ ax_tbl) (h2 : va_Nc C nm f.2.2.2.1) (hd : decode Y.2.1 pc = .ok (.instanceof idx, 3)) (ht : T a = ci) (kk : axX G f mc ms Q (pc + 3) L (vI 0 :: st) T N I R z k n) : axX G f mc ms Q pc L (vR a :: st) T N I R z k n := by
  intro H locs ls hH hl hL hk hn
  exact va_instNo hC.1 hC.2.1 hC.2.2.2.2.2.1 (hC.2.2.2.2.2.2.1 _ h1) h2 (ax_recv hC hcl hH ht) hd (kk H locs ls hH hl hL hk hn)
theorem x_ldc2 (hC : axC G f Y own d mc ms) {idx : Nat} {v : Int} (h1 : Cond.constantLong own idx (Int64.ofInt v) ∈ ax_tbl) (hd : decode Y.2.1 pc = .ok (.ldc2_w idx, 3)) (kk : axX G f mc ms Q (pc + 3) L (vL v :: st) T N I R z k n) : axX G f mc ms Q pc L st T N I R z k n :=
  axX.go (fun H locs ls cells slots Q0 hL k => lv_ldc2 hC.1 hC.2.1 hC.2.2.2.2.2.1 (hC.2.2.2.2.2.2.1 _ h1) hd (k ls hL)) kk
/-- fewer cells, other words for the same state -/
theorem x_eq {pc' : Nat} {L' st' : List ax_V} (h : axX G f mc ms Q pc' L' st' T N I R z k n) (h1 : pc' = pc) (h2 : L' = L) (h3 : st' = st) : axX G f mc ms Q pc L st T N I R z k n := by subst h1 h2 h3; exact h
end AXD
/-- a contract may promise less, ask for more -/
theorem axM.weaken {G : ax_G} {Y : ax_Y} {d : Nat} {as : List ax_V} {T : Nat → Nat} {N : Nat → Int} {I : Nat → Int → Int} {R : Nat → Int → Option Nat} {z k n : Nat} {Q Q' : ax_P} (h : axM G Y d as T N I R z k n Q) (hQ : ∀ r T N I R z, Q r T N I R z → Q' r T N I R z) : axM G Y d as T N I R z k n Q' := by
  intro hO p e ha hc hk s m args below hf happ hP hT
  obtain ⟨t, o, h1, h2, h3, ⟨r, T1, N1, I1, R1, z1, e1, e2, e3⟩, h5⟩ := h hO p e ha hc hk s m args below hf happ hP hT
  exact ⟨t, o, h1, h2, h3, ⟨r, T1, N1, I1, R1, z1, e1, hQ _ _ _ _ _ _ e2, e3⟩, h5⟩
