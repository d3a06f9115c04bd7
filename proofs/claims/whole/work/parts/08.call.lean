/-! THE PLAIN MACHINE, 4: new cells, copies, statics, calls -/
theorem axNs_on {w : Cond} (hw : w ∈ axNs) : w.onTables = true ∨ ∃ C, w = .arrayOver (.object C) := by
  unfold axNs at hw
  rcases List.mem_append.mp hw with hw | hw
  · simp at hw
    subst hw
    exact Or.inl rfl
  · have h2 := (List.mem_filter.mp hw).2
    split at h2
    · exact Or.inl rfl
    · exact Or.inl rfl
    · exact Or.inr ⟨_, rfl⟩
    · cases h2
theorem axK.same {G : ax_G} {u U : State} (h : u.vm = U.vm) (hK : axK G u) : axK G U := by
  have hA : u.vm.Alike U.vm := by rw [h]; exact Vm.Alike.refl _
  refine ⟨va_K.moved hA hK.1, va_Z.moved hA hK.2.1, fun w hw => ?_, va_Nc.moved hA hK.2.2.2.1, va_Nc.moved hA hK.2.2.2.2.1, va_Nc.moved hA hK.2.2.2.2.2⟩
  rcases axNs_on hw with h1 | ⟨C, rfl⟩
  · exact va_Nw.same h1 h (hK.2.2.1 w hw)
  · exact va_AO.moved hA (hK.2.2.1 _ hw)
theorem axPc_blind {G : ax_G} {as : List ax_V} {T : Nat → Nat} {N : Nat → Int} {I : Nat → Int → Int} {R : Nat → Int → Option Nat} {z : Nat} : FrameBlind (axPc G as T N I R z) := fun a U g mk h => ⟨h.1, h.2.1, axK.same (u := U) (U := U.calling g mk a) rfl h.2.2⟩
def axNew (own : String) (idx ci nf : Nat) : Prop := ∃ (C : String) (Tb : u_T) (ty : Nat → FieldType), axCls ci C Tb nf ty ∧ Cond.classLink own idx C ∈ ax_tbl ∧ Cond.instantiable C nf ∈ ax_tbl ∧ Cond.initialized C ∈ ax_tbl ∧ ∀ j, j < nf → defaultValue (ty j) = axVal ci (fun _ => 0) (fun _ => none) j
def axCalV (own : String) (idx ci : Nat) (Y' : ax_Y) (na : Nat) : Prop := ∃ (C : String) (Tb : u_T) (nf : Nat) (ty : Nat → FieldType), axCls ci C Tb nf ty ∧ Cond.methodLink own idx Y'.1 ∈ ax_tbl ∧ Cond.instanceMethod Y'.1 ∈ ax_tbl ∧ Cond.selects C Y'.1 Y'.1 ∈ ax_tbl ∧ Cond.initialized Y'.1.cls ∈ ax_tbl ∧ Cond.code Y'.1 Y'.2.1 Y'.2.2.1 Y'.2.2.2 ∈ ax_tbl ∧ (Y'.1.cls ≠ "java/lang/invoke/MethodHandle" ∧ Y'.1.cls ≠ "java/lang/invoke/VarHandle" ∧ (parseMethodDescriptor Y'.1.desc).map (fun d => d.parameters.length) = some na) ∧ Y'.2.2.1 ≤ 23
def axCalU (own : String) (idx ci : Nat) (owner : String) (x : MethodName) (Y' : ax_Y) (na : Nat) : Prop := ∃ (C : String) (Tb : u_T) (nf : Nat) (ty : Nat → FieldType) (b0 : ByteArray) (m0 : Nat) (r0 : Option FieldType), axCls ci C Tb nf ty ∧ Cond.methodLink own idx x ∈ ax_tbl ∧ Cond.sameMethod x.cls owner x.name x.desc ∈ ax_tbl ∧ Cond.instanceMethod ⟨owner, x.name, x.desc⟩ ∈ ax_tbl ∧ Cond.code ⟨owner, x.name, x.desc⟩ b0 m0 r0 ∈ ax_tbl ∧ Cond.selects C x Y'.1 ∈ ax_tbl ∧ Cond.instanceMethod Y'.1 ∈ ax_tbl ∧ Cond.initialized Y'.1.cls ∈ ax_tbl ∧ Cond.code Y'.1 Y'.2.1 Y'.2.2.1 Y'.2.2.2 ∈ ax_tbl ∧ (owner ≠ "java/lang/invoke/MethodHandle" ∧ owner ≠ "java/lang/invoke/VarHandle" ∧ (parseMethodDescriptor x.desc).map (fun d => d.parameters.length) = some na) ∧ Y'.2.2.1 ≤ 23
def axCalS (own : String) (idx : Nat) (Y' : ax_Y) (na : Nat) : Prop := Cond.methodLink own idx Y'.1 ∈ ax_tbl ∧ Cond.static Y'.1 ∈ ax_tbl ∧ Cond.initialized Y'.1.cls ∈ ax_tbl ∧ Cond.code Y'.1 Y'.2.1 Y'.2.2.1 Y'.2.2.2 ∈ ax_tbl ∧ (Y'.1.cls ≠ "java/lang/invoke/MethodHandle" ∧ Y'.1.cls ≠ "java/lang/invoke/VarHandle" ∧ (parseMethodDescriptor Y'.1.desc).map (fun d => d.parameters.length) = some na) ∧ Y'.2.2.1 ≤ 23
def axCalI (own : String) (idx : Nat) (Y' : ax_Y) (na : Nat) : Prop := (Cond.methodLink own idx Y'.1 ∈ ax_tbl ∨ ∃ host, Cond.methodLinkNest own idx Y'.1 host ∈ axNs) ∧ Y'.1.name = "<init>" ∧ Y'.2.2.2 = none ∧ Cond.instanceMethod Y'.1 ∈ ax_tbl ∧ Cond.initialized Y'.1.cls ∈ ax_tbl ∧ Cond.code Y'.1 Y'.2.1 Y'.2.2.1 Y'.2.2.2 ∈ ax_tbl ∧ (Y'.1.cls ≠ "java/lang/invoke/MethodHandle" ∧ Y'.1.cls ≠ "java/lang/invoke/VarHandle" ∧ (parseMethodDescriptor Y'.1.desc).map (fun d => d.parameters.length) = some na) ∧ Y'.2.2.1 ≤ 23
/-- a copy of a stretch -/
def ax_c (I : Nat → Int → Int) (src : Nat) (sp : Int) (dst : Nat) (dp n : Int) : Nat → Int → Int := fun b j => if b = dst ∧ dp ≤ j ∧ j < dp + n then I src (sp + (j - dp)) else I b j
section AXC
variable {G : ax_G} {f : ax_F} {Y : ax_Y} {own : String} {d mc ms : Nat} {Q : ax_P} {pc : Nat} {L st : List ax_V} {T : Nat → Nat} {N : Nat → Int} {I : Nat → Int → Int} {R : Nat → Int → Option Nat} {z k n : Nat}
theorem axH.arrB {H : Heap} {a : Nat} (h : axH G T N I R z H) (ht : T a = 13) (hO : axO G) (hb : G.2.2.2.1 ≤ a) : G.2.2.2.1 ≤ a ∧ a < z ∧ H[a]? = some (arrV (G.2.2.1 13) (N a).toNat (fun j => .int (Int32.ofInt (I a (j : Int))))) := by
  rcases h.2.2.1 a (by omega) with ⟨h1, -, -⟩ | ⟨h1, h2, h3⟩
  · have := hO.1; omega
  · refine ⟨h1, h2, ?_⟩
    unfold axAt at h3
    rw [if_neg (by omega), if_pos ht] at h3
    exact h3
set_option maxHeartbeats 1000000 in
theorem x_new (hC : axC G f Y own d mc ms) {idx ci nf : Nat} (hg : axNew own idx ci nf) (hd : decode Y.2.1 pc = .ok (.new idx, 3)) (hk1 : 1 ≤ k) (hn1 : nf ≤ n) (kk : axX G f mc ms Q (pc + 3) L (vR z :: st) (ax_n T z ci) N (ax_n I z (fun _ => 0)) (ax_n R z (fun _ => none)) (z + 1) (k - 1) (n - nf)) : axX G f mc ms Q pc L st T N I R z k n := by
  intro H locs ls hH hl hL hk hn
  obtain ⟨C, Tb, ty, hcl, h1, h2, h3, hdef⟩ := hg
  have hts := hC.2.2.2.2.2.2.1
  have hK := hC.2.2.2.2.2.2.2.1
  have hRm := hC.2.2.2.2.2.2.2.2.2.1
  have hKn := hK.1.1 ci _ hcl.1
  have hrc : f.2.2.1.cells = mc := by rw [hRm]; rfl
  have hrs : f.2.2.1.slots = ms := by rw [hRm]; rfl
  refine W.newcK (n := nf) hC.1 hC.2.1 hC.2.2.2.2.2.1 (hts _ h1) (hts _ h2) (hts _ h3) rfl hd (by rw [hrc]; omega) (by rw [hrs]; omega) hKn.2.1 hH.1 fun H1 kC hkC e1 z1 o1 => ?_
  have ec : mc - k + 1 = mc - (k - 1) := by omega
  have en : ms - n + nf = ms - (n - nf) := by omega
  rw [ec, en]
  refine kk H1 locs ls (hH.push z1 o1 (fun b hb => axn_a hb) (fun b _ => rfl) (fun b hb => axn_a hb) (fun b hb => axn_a hb) (hH.2.2.2.2 z) ?_) hl hL (by omega) (by omega)
  unfold axAt
  have hci := hcl.2.2.2.2
  rw [axn_s, if_pos hci, hcl.nf, axn_s, axn_s]
  exact (u_born ty hts hcl.2.1 hKn hkC e1 hcl.2.2.1).to hdef
theorem x_newi (hC : axC G f Y own d mc ms) {len : Int} (ha : Cond.arrayClass .int ∈ ax_tbl) (hd : decode Y.2.1 pc = .ok (.newarray .int, 2)) (h0 : 0 ≤ len) (h1 : len ≤ 100000) (hk1 : 1 ≤ k) (hn1 : len ≤ n) (kk : axX G f mc ms Q (pc + 2) L (vR z :: st) (ax_n T z 13) (ax_n N z len) (ax_n I z (fun _ => 0)) (ax_n R z (fun _ => none)) (z + 1) (k - 1) (n - len.toNat)) : axX G f mc ms Q pc L (vI len :: st) T N I R z k n := by
  intro H locs ls hH hl hL hk hn
  have hts := hC.2.2.2.2.2.2.1
  have hK := hC.2.2.2.2.2.2.2.1
  have hRm := hC.2.2.2.2.2.2.2.2.2.1
  have hrc : f.2.2.1.cells = mc := by rw [hRm]; rfl
  have hrs : f.2.2.1.slots = ms := by rw [hRm]; rfl
  have hr : ax_r len := ⟨by omega, by omega⟩
  refine va_newaK (atype := .int) (n := Int32.ofInt len) (N := len.toNat) hC.1 hC.2.1 (hts _ ha) rfl hd rfl (fun h => by rw [ax_0, ax_lt hr ax_r0] at h; omega) (ax_clamp hr) (by
    have : componentBytes (newarray.typeOf .int) = 4 := rfl
    rw [this]; omega) (by rw [hrc]; omega) (by rw [hrs]; omega) hH.1 fun H1 cA e1 z1 o1 hAr hNm => ?_
  have hcA : cA = G.2.2.1 13 := by
    have h5 : f.2.2.2.1.vm.findClass ("[" ++ FieldType.int.toString) = some (G.2.2.1 13) := (hK.1.2 0 (G.2.2.1 13, .int) rfl).2
    exact Option.some.inj (hNm.symm.trans h5)
  have ec : mc - k + 1 = mc - (k - 1) := by omega
  have en : ms - n + len.toNat = ms - (n - len.toNat) := by omega
  rw [ec, en]
  refine kk H1 locs ls (hH.push z1 o1 (fun b hb => axn_a hb) (fun b hb => axn_a hb) (fun b hb => axn_a hb) (fun b hb => axn_a hb) (by rw [axn_s]; omega) ?_) hl hL (by omega) (by omega)
  unfold axAt
  rw [axn_s, if_neg (by decide), if_pos rfl, axn_s, axn_s, e1, hcA]
  rfl
theorem x_newr (hC : axC G f Y own d mc ms) {len : Int} {idx ta i : Nat} {C : String} (he : axEl ta i C) (hcl : Cond.classLink own idx C ∈ ax_tbl) (hov : Cond.arrayOver (.object C) ∈ axNs) (hd : decode Y.2.1 pc = .ok (.anewarray idx, 3)) (h0 : 0 ≤ len) (h1 : len ≤ 100000) (hk1 : 1 ≤ k) (hn1 : len ≤ n) (kk : axX G f mc ms Q (pc + 3) L (vR z :: st) (ax_n T z ta) (ax_n N z len) (ax_n I z (fun _ => 0)) (ax_n R z (fun _ => none)) (z + 1) (k - 1) (n - len.toNat)) : axX G f mc ms Q pc L (vI len :: st) T N I R z k n := by
  intro H locs ls hH hl hL hk hn
  have hts := hC.2.2.2.2.2.2.1
  have hK := hC.2.2.2.2.2.2.2.1
  have hRm := hC.2.2.2.2.2.2.2.2.2.1
  have hrc : f.2.2.1.cells = mc := by rw [hRm]; rfl
  have hrs : f.2.2.1.slots = ms := by rw [hRm]; rfl
  have hr : ax_r len := ⟨by omega, by omega⟩
  have hcn := ax_clamp hr
  refine W.anew (n := Int32.ofInt len) hC.1 hC.2.1 hC.2.2.2.2.2.1 (hts _ hcl) (va_AO.use (hK.2.2.1 _ hov)) rfl hd rfl (fun h => by rw [ax_0, ax_lt hr ax_r0] at h; omega) (by rw [hcn]; omega) (by rw [hrc]; omega) (by rw [hrs, hcn]; omega) fun cA kA comp f1 f2 f3 f4 => ?_
  have hcA : cA = G.2.2.1 ta := by
    obtain ⟨kA', comp', g1, g2, g3, g4⟩ := (hK.1.2 i (G.2.2.1 ta, .object C) (he.2.2 _)).2
    exact Option.some.inj (f1.symm.trans g4)
  rw [hcn]
  have ec : mc - k + 1 = mc - (k - 1) := by omega
  have en : ms - n + len.toNat = ms - (n - len.toNat) := by omega
  rw [ec, en]
  have h14 := he.1
  have hz := hH.1
  have := kk (H.push { cls := cA, slots := Array.replicate len.toNat .null, vm := .none }) locs ls (hH.push (by rw [Array.size_push, hz]) (fun q hq => by rw [Array.getElem?_push, if_neg (by omega)]) (fun b hb => axn_a hb) (fun b hb => axn_a hb) (fun b hb => axn_a hb) (fun b hb => axn_a hb) (by rw [axn_s]; omega) (by
    unfold axAt
    rw [axn_s, if_neg (by omega), if_neg (by omega), axn_s, axn_s, ← hz, Array.getElem?_push_size, arrV_new, hcA]
    rfl)) hl hL (by omega) (by omega)
  rw [← hz] at this
  exact this
theorem x_nolines0 (hC : axC G f Y own d mc ms) {idx : Nat} (hl : Cond.fieldLink own idx RX11 "NO_LINES" "[I" ∈ ax_tbl ∨ ∃ host, Cond.fieldLinkNest own idx RX11 "NO_LINES" "[I" host ∈ axNs) (hd : decode Y.2.1 pc = .ok (.getstatic idx, 3)) (kk : axX G f mc ms Q (pc + 3) L (vR G.2.2.2.2.1 :: st) T N I R z k n) : axX G f mc ms Q pc L st T N I R z k n := by
  intro H locs ls hH hlo hL hk hn
  have hK := hC.2.2.2.2.2.2.2.1
  obtain ⟨cf, kf, fi, fd, a, cell, h1, h2, h3, h4, h5, h6, h7, h8⟩ := hK.2.1
  have hcell : H[a]? = some cell := by rw [hH.2.2.2.1 a (Nat.not_le.mp h8)]; exact h5
  rcases hl with hl | ⟨host, hl⟩
  · exact W.gets hC.1 hC.2.1 hC.2.2.2.2.2.1 (hC.2.2.2.2.2.2.1 _ hl) h1 h2 h3 h4 hcell (fun e => by rw [e] at h6; cases h6) h7 rfl hd (kk H locs ls hH hlo hL hk hn)
  · exact va_WgetsN hC.1 hC.2.1 hC.2.2.2.2.2.1 (va_Nw.use rfl (hK.2.2.1 _ hl)) h1 h2 h3 h4 hcell (fun e => by rw [e] at h6; cases h6) h7 rfl hd (kk H locs ls hH hlo hL hk hn)
theorem x_objInit (hC : axC G f Y own d mc ms) {idx a : Nat} (h1 : Cond.methodLink own idx Lib.objectInit ∈ ax_tbl) (h2 : Cond.instanceMethod Lib.objectInit ∈ ax_tbl) (h3 : Cond.code Lib.objectInit ⟨#[0xb1]⟩ 1 none ∈ ax_tbl) (hd : decode Y.2.1 pc = .ok (.invokespecial idx, 3)) (hd1 : 1 ≤ d) (hLl : L.length = Y.2.2.1) (hst : ((st.map axv).map fun v => v.category).sum ≤ 8) (kk : axX G f mc ms Q (pc + 3) L st T N I R z k n) : axX G f mc ms Q pc L (vR a :: st) T N I R z k n := by
  intro H locs ls hH hl hL hk hn
  have hts := hC.2.2.2.2.2.2.1
  have hRm := hC.2.2.2.2.2.2.2.2.2.1
  refine W.objInit (rest := st.map axv) (a := a) hC.1 hC.2.1 hC.2.2.2.2.2.1 (hts _ h1) (hts _ h2) (hts _ h3) rfl (by show ls.size = _; rw [hL.1, hLl, hC.2.2.1]) rfl hd (by rw [hRm]; exact hd1) ?_ (kk H locs ls hH hl hL hk hn)
  rw [hRm]
  show 2 * 0 + _ + 12 ≤ 42 * d
  omega
theorem ax_after {H : Heap} {locs : List Loc} {ls : Array Slot} {k' n' : Nat} {stk rest : List ax_V} {Q' : ax_P} {a : Array Value} (hL : axLs L ls) (hl : ∀ q ∈ locs, G.2.2.2.1 ≤ q.base) (hk : k ≤ mc) (hn : n ≤ ms) (hk' : k' ≤ k) (hn' : n' ≤ n)
    (hr : va_Run f.1 G.1 f.2.1 f.2.2.1 f.2.2.2.1 f.2.2.2.2.1 f.2.2.2.2.2.1 f.2.2.2.2.2.2.1 f.2.2.2.2.2.2.2.1 f.2.2.2.2.2.2.2.2 H locs (mc - k) (ms - n) k' n' (F0 f.2.2.2.2.1 pc ls (stk.map axv)) (rest.map axv) (axQc G Q' a) (fun q => G.2.2.2.1 ≤ q))
    (kk : ∀ r T' N' I' R' z', Q' r T' N' I' R' z' → axX G f mc ms Q (pc + 3) L (r.toList ++ rest) T' N' I' R' z' (k - k') (n - n')) :
    W f.1 G.1 f.2.1 f.2.2.1 f.2.2.2.1 f.2.2.2.2.1 f.2.2.2.2.2.1 f.2.2.2.2.2.2.1 f.2.2.2.2.2.2.2.1 f.2.2.2.2.2.2.2.2 H locs (mc - k) (ms - n) (MQ f.2.2.2.2.2.2.1 (axQc G Q) f.2.2.2.2.2.1 f.2.2.2.1 mc ms (fun q => G.2.2.2.1 ≤ q)) (F0 f.2.2.2.2.1 pc ls (stk.map axv)) := by
  intro T0 hT X
  obtain ⟨v, st₀, t, T', Ls, h0, X', hLs, e1, e2, ⟨r, T1, N1, I1, R1, z1, hv, hq, hH⟩, stp⟩ := hr T0 hT X
  have hv2 : v = r.map axv := by injection hv
  subst hv2
  have ec : mc - k + k' = mc - (k - k') := by omega
  have en : ms - n + n' = ms - (n - n') := by omega
  rw [ec, en] at X'
  obtain ⟨t2, a1, b1⟩ := kk r T1 N1 I1 R1 z1 hq T'.heap (locs ++ Ls) ls (by rw [e1]; exact hH) (fun q hq => (List.mem_append.mp hq).elim (hl q) (hLs q)) hL (by omega) (by omega) T' rfl X'
  refine ⟨t2, stp t2 ?_, b1⟩
  have es : (r.map axv).toList ++ rest.map axv = (r.toList ++ rest).map axv := by cases r <;> rfl
  rw [es]
  exact a1
theorem ax_rm {d' k' n' nl : Nat} (hC : axC G f Y own d mc ms) (hdd : d' + 1 ≤ d) (hnl : nl ≤ 23) : (axRm d' k' n').frames + 1 ≤ f.2.2.1.frames ∧ 8 + (nl + 11) + (axRm d' k' n').locals ≤ f.2.2.1.locals := by
  rw [hC.2.2.2.2.2.2.2.2.2.1]
  refine ⟨hdd, ?_⟩
  show 8 + (nl + 11) + 42 * d' ≤ 42 * d
  omega
theorem ax_pre (hC : axC G f Y own d mc ms) {H : Heap} {as : List ax_V} (hH : axH G T N I R z H) : PreS f.2.2.2.1 H (axPc G as T N I R z) (as.map axv) := ⟨axPc_blind, fun U hU hW => ⟨rfl, by rw [hU]; exact hH, hC.2.2.2.2.2.2.2.1.warm hW⟩⟩
theorem ax_recv (hC : axC G f Y own d mc ms) {H : Heap} {b ci : Nat} {C : String} {Tb : u_T} {nf : Nat} {ty : Nat → FieldType} (hcl : axCls ci C Tb nf ty) (hH : axH G T N I R z H) (ht : T b = ci) : ∃ cellB : Cell, H[b]? = some cellB ∧ cellB.vm.isStatics = false ∧ f.2.2.2.1.vm.findClass C = some cellB.cls := by
  obtain ⟨-, -, cell, q1, q2, q3, -⟩ := hH.obj ht hcl.2.2.2.2
  exact ⟨cell, q1, by rw [q3]; rfl, by rw [q2]; exact (hC.2.2.2.2.2.2.2.1.1.1 ci _ hcl.1).2.1⟩
set_option maxHeartbeats 1000000 in
theorem x_callV (hC : axC G f Y own d mc ms) {idx ci b na d' k' n' : Nat} {Y' : ax_Y} {as stk rest : List ax_V} {Q' : ax_P} (hs : axCalV own idx ci Y' na) (hd : decode Y.2.1 pc = .ok (.invokevirtual idx, 3)) (hM : axM G Y' d' (vR b :: as) T N I R z k' n' Q') (ht : T b = ci) (hst : stk = as.reverse ++ vR b :: rest) (hdd : d' + 1 ≤ d) (hk' : k' ≤ k) (hn' : n' ≤ n) (hna : as.length = na) (hLl : L.length = Y.2.2.1) (hcat : ((rest.map axv).map fun v => v.category).sum ≤ 8)
    (kk : ∀ r T' N' I' R' z', Q' r T' N' I' R' z' → axX G f mc ms Q (pc + 3) L (r.toList ++ rest) T' N' I' R' z' (k - k') (n - n')) : axX G f mc ms Q pc L stk T N I R z k n := by
  intro H locs ls hH hl hL hk hn
  obtain ⟨C, Tb, nf, ty, hcl, h1, h2, h3, h4, h5, h6, h7⟩ := hs
  have hts := hC.2.2.2.2.2.2.1
  have hRm := hC.2.2.2.2.2.2.2.2.2.1
  have hrc : f.2.2.1.cells = mc := by rw [hRm]; rfl
  have hrs : f.2.2.1.slots = ms := by rw [hRm]; rfl
  refine ax_after hL hl hk hn hk' hn' (va_runV (As := as.map axv) (rest := rest.map axv) (b := b) (C := C) (nL := Y.2.2.1) (n := na) ⟨hC.1, hC.2.1, hC.2.2.1, hC.2.2.2.2.2.1, hts⟩ (hM hC.2.2.2.2.2.2.2.2.1) ⟨callB_of na hts (ax_goodIn h5) rfl rfl rfl (hts _ h4) (hts _ h1) h6 (ax_rm hC hdd h7), hts _ h2, hts _ h3⟩ ⟨axPc_blind, ax_recv hC hcl hH ht, (ax_pre hC (as := vR b :: as) hH).2⟩ rfl (by rw [List.length_map]; exact hna) (by show ls.size = _; rw [hL.1]; exact hLl) ?_ (lv_room hcat) hd ⟨by rw [hrc]; omega, by rw [hrs]; omega⟩) kk
  rw [hst]
  simp [axv_R]
set_option maxHeartbeats 1000000 in
theorem x_callU (hC : axC G f Y own d mc ms) {idx ci b na d' k' n' : Nat} {owner : String} {x : MethodName} {Y' : ax_Y} {as stk rest : List ax_V} {Q' : ax_P} (hs : axCalU own idx ci owner x Y' na) (hd : decode Y.2.1 pc = .ok (.invokevirtual idx, 3)) (hM : axM G Y' d' (vR b :: as) T N I R z k' n' Q') (ht : T b = ci) (hst : stk = as.reverse ++ vR b :: rest) (hdd : d' + 1 ≤ d) (hk' : k' ≤ k) (hn' : n' ≤ n) (hna : as.length = na) (hLl : L.length = Y.2.2.1) (hcat : ((rest.map axv).map fun v => v.category).sum ≤ 8)
    (kk : ∀ r T' N' I' R' z', Q' r T' N' I' R' z' → axX G f mc ms Q (pc + 3) L (r.toList ++ rest) T' N' I' R' z' (k - k') (n - n')) : axX G f mc ms Q pc L stk T N I R z k n := by
  intro H locs ls hH hl hL hk hn
  obtain ⟨C, Tb, nf, ty, b0, m0, r0, hcl, h1, h2, h3, h4, h5, h6, h7, h8, h9, h10⟩ := hs
  have hts := hC.2.2.2.2.2.2.1
  have hRm := hC.2.2.2.2.2.2.2.2.2.1
  have hrc : f.2.2.1.cells = mc := by rw [hRm]; rfl
  have hrs : f.2.2.1.slots = ms := by rw [hRm]; rfl
  have hrm := ax_rm (d' := d') (k' := k') (n' := n') hC hdd h10
  refine ax_after hL hl hk hn hk' hn' (va_runU (As := as.map axv) (rest := rest.map axv) (b := b) (C := C) (owner := owner) (x := x) (nL := Y.2.2.1) (n := na) ⟨hC.1, hC.2.1, hC.2.2.1, hC.2.2.2.2.2.1, hts⟩ (hM hC.2.2.2.2.2.2.2.2.1) ⟨⟨rfl, rfl, hrm.1, hrm.2, pay_in hts (ax_goodIn h8), List.mem_cons_self⟩, hts _ h8, hts _ h7, ⟨h9.1, h9.2.1⟩, ?_, hts _ h1, hts _ h2, va_Decl.of (hts _ h3) (hts _ h4), hts _ h5, hts _ h6⟩ ⟨axPc_blind, ax_recv hC hcl hH ht, (ax_pre hC (as := vR b :: as) hH).2⟩ rfl (by rw [List.length_map]; exact hna) (by show ls.size = _; rw [hL.1]; exact hLl) ?_ (lv_room hcat) hd ⟨by rw [hrc]; omega, by rw [hrs]; omega⟩) kk
  · intro sig h
    have h2 := h9.2.2
    rw [h] at h2
    exact (Option.some.inj h2).symm
  · rw [hst]
    simp [axv_R]
set_option maxHeartbeats 1000000 in
theorem x_callS (hC : axC G f Y own d mc ms) {idx na d' k' n' : Nat} {Y' : ax_Y} {as stk rest : List ax_V} {Q' : ax_P} (hs : axCalS own idx Y' na) (hd : decode Y.2.1 pc = .ok (.invokestatic idx, 3)) (hM : axM G Y' d' as T N I R z k' n' Q') (hst : stk = as.reverse ++ rest) (hdd : d' + 1 ≤ d) (hk' : k' ≤ k) (hn' : n' ≤ n) (hna : as.length = na) (hLl : L.length = Y.2.2.1) (hcat : ((rest.map axv).map fun v => v.category).sum ≤ 8)
    (kk : ∀ r T' N' I' R' z', Q' r T' N' I' R' z' → axX G f mc ms Q (pc + 3) L (r.toList ++ rest) T' N' I' R' z' (k - k') (n - n')) : axX G f mc ms Q pc L stk T N I R z k n := by
  intro H locs ls hH hl hL hk hn
  obtain ⟨h1, h2, h4, h5, h6, h7⟩ := hs
  have hts := hC.2.2.2.2.2.2.1
  have hRm := hC.2.2.2.2.2.2.2.2.2.1
  have hrc : f.2.2.1.cells = mc := by rw [hRm]; rfl
  have hrs : f.2.2.1.slots = ms := by rw [hRm]; rfl
  refine ax_after hL hl hk hn hk' hn' (va_runS (As := as.map axv) (rest := rest.map axv) (nL := Y.2.2.1) (n := na) ⟨hC.1, hC.2.1, hC.2.2.1, hC.2.2.2.2.2.1, hts⟩ (hM hC.2.2.2.2.2.2.2.2.1) ⟨callB_of na hts (ax_goodIn h5) rfl rfl rfl (hts _ h4) (hts _ h1) h6 (ax_rm hC hdd h7), hts _ h2⟩ (ax_pre hC hH) rfl (by rw [List.length_map]; exact hna) (by show ls.size = _; rw [hL.1]; exact hLl) ?_ (lv_room hcat) hd ⟨by rw [hrc]; omega, by rw [hrs]; omega⟩) kk
  rw [hst]
  simp
set_option maxHeartbeats 1000000 in
theorem x_callI (hC : axC G f Y own d mc ms) {idx b na d' k' n' : Nat} {Y' : ax_Y} {as stk rest : List ax_V} {Q' : ax_P} (hs : axCalI own idx Y' na) (hd : decode Y.2.1 pc = .ok (.invokespecial idx, 3)) (hM : axM G Y' d' (vR b :: as) T N I R z k' n' Q') (hst : stk = as.reverse ++ vR b :: rest) (hdd : d' + 1 ≤ d) (hk' : k' ≤ k) (hn' : n' ≤ n) (hna : as.length = na) (hLl : L.length = Y.2.2.1) (hcat : ((rest.map axv).map fun v => v.category).sum ≤ 8)
    (kk : ∀ r T' N' I' R' z', Q' r T' N' I' R' z' → axX G f mc ms Q (pc + 3) L (r.toList ++ rest) T' N' I' R' z' (k - k') (n - n')) : axX G f mc ms Q pc L stk T N I R z k n := by
  intro H locs ls hH hl hL hk hn
  obtain ⟨h1, h2, h3, h4, h5, h6, h7, h8⟩ := hs
  have hts := hC.2.2.2.2.2.2.1
  have hRm := hC.2.2.2.2.2.2.2.2.2.1
  have hrc : f.2.2.1.cells = mc := by rw [hRm]; rfl
  have hrs : f.2.2.1.slots = ms := by rw [hRm]; rfl
  have hM2 := hM hC.2.2.2.2.2.2.2.2.1
  rw [h3] at hM2 h6
  rcases h1 with h1 | ⟨host, h1⟩
  · refine ax_after hL hl hk hn hk' hn' (va_runI (As := as.map axv) (rest := rest.map axv) (b := b) (nL := Y.2.2.1) (n := na) ⟨hC.1, hC.2.1, hC.2.2.1, hC.2.2.2.2.2.1, hts⟩ hM2 ⟨callB_of na hts (ax_goodIn h6) rfl rfl rfl (hts _ h5) (hts _ h1) h7 (ax_rm hC hdd h8), h2, hts _ h4⟩ (ax_pre hC (as := vR b :: as) hH) rfl (by rw [List.length_map]; exact hna) (by show ls.size = _; rw [hL.1]; exact hLl) ?_ (lv_room hcat) hd ⟨by rw [hrc]; omega, by rw [hrs]; omega⟩) kk
    rw [hst]
    simp [axv_R]
  · refine ax_after hL hl hk hn hk' hn' (va_runIN (As := as.map axv) (rest := rest.map axv) (b := b) (nL := Y.2.2.1) (n := na) ⟨hC.1, hC.2.1, hC.2.2.1, hC.2.2.2.2.2.1, hts⟩ hM2 ⟨va_cnB na hts (ax_goodIn h6) rfl rfl rfl (hC.2.2.2.2.2.2.2.1.2.2.1 _ h1) (hts _ h5) h7 (ax_rm hC hdd h8), h2, hts _ h4⟩ (ax_pre hC (as := vR b :: as) hH) rfl (by rw [List.length_map]; exact hna) (by show ls.size = _; rw [hL.1]; exact hLl) ?_ (lv_room hcat) hd ⟨by rw [hrc]; omega, by rw [hrs]; omega⟩) kk
    rw [hst]
    simp [axv_R]
end AXC
