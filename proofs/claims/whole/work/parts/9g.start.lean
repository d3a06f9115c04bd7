/-! THE LAW: from its entry to its loop -/
set_option maxHeartbeats 4000000 in
set_option maxRecDepth 100000 in
theorem lw_start {G : ax_G} {f : ax_F} {Q : ax_P} {b Ls : Nat} {xs : Nat → Int32} {nm : MethodName} (hC : axC G f (YL nm) RL 11 600000 7302250) (hX : va_X b Ls xs f.2.2.2.1 G.2.2.2.2.2) (hb : b < G.2.2.2.1) (hLs : Ls ≤ 3072) (hQ : ∀ (T : Nat → Nat) (N : Nat → Int) (I : Nat → Int → Int) (R : Nat → Int → Option Nat) (z : Nat), Q (some (vI 1)) T N I R z) {a : Nat} (ha : a = G.2.2.2.1) {T : Nat → Nat} {N : Nat → Int} {I : Nat → Int → Int} {R : Nat → Int → Option Nat} (t1 : T G.2.2.2.2.1 = 13) (t2 : ∀ q, q ≠ G.2.2.2.2.1 → T q = 99) (n1 : N G.2.2.2.2.1 = 0) : axX G f 600000 7302250 Q 0 [vR b, vU, vU, vU] [] T N I R a 600000 7302250 := by
  have hO := hC.2.2.2.2.2.2.2.2.1.1
  refine x_new (pc := 0) hC nw_L_7 dL_law_0 (by omega) (by omega) ?_
  refine x_dup (pc := 3) hC dL_law_3 rfl ?_
  refine x_callI (pc := 4) hC ci_L_9 dL_law_4 (c_init11 (a := a) axn_s rfl (by omega) ⟨⟨by rw [axn_a (by omega)]; exact t1, n1⟩, hO⟩ (fun q hq => by rw [axn_a (by omega)]; exact t2 q (by omega)) (fun j => by rw [axn_s])) rfl (by decide) (by omega) (by omega) rfl rfl (Nat.le_of_ble_eq_true rfl) (fun r1 T1 N1 I1 R1 z1 q => ?_)
  obtain ⟨rfl, rfl, g1, f1⟩ := q
  dsimp only [Option.toList, List.cons_append, List.nil_append]
  refine x_astore_n (pc := 7) hC dL_law_7 (Nat.le_of_ble_eq_true rfl) ?_
  dsimp only [List.set]
  refine x_new (pc := 8) hC nw_L_10 dL_law_8 (by omega) (by omega) ?_
  refine x_dup (pc := 11) hC dL_law_11 rfl ?_
  refine x_callI (pc := 12) hC ci_L_12 dL_law_12 (m_init12 (o := a + 197) axn_s rfl (fun j => by rw [axn_s])) rfl (by decide) (by omega) (by omega) rfl rfl (Nat.le_of_ble_eq_true rfl) (fun r2 T2 N2 I2 R2 z2 q => ?_)
  obtain ⟨rfl, rfl, g2, M, I0, hZ, hI⟩ := q
  dsimp only [Option.toList, List.cons_append, List.nil_append]
  refine x_astore_n (pc := 15) hC dL_law_15 (Nat.le_of_ble_eq_true rfl) ?_
  dsimp only [List.set]
  refine x_iconst (pc := 16) hC dL_law_16 ?_
  refine x_istore_n (pc := 17) hC dL_law_17 (Nat.le_of_ble_eq_true rfl) ?_
  dsimp only [List.set]
  have e2 : ∀ q, q < a + 197 → T2 q = T1 q ∧ N2 q = N1 q ∧ I2 q = I1 q ∧ R2 q = R1 q := fun q hq => by
    obtain ⟨p1, p2, p3, p4⟩ := g2.1 q hq
    rw [axn_a (by omega)] at p1 p3 p4
    exact ⟨p1, p2, p3, p4⟩
  have tz : ∀ q, T2 q ≠ 99 → q < a + 197 + 37 := fun q hq => by
    rcases Nat.lt_or_ge q (a + 197 + 37) with h9 | h9
    · exact h9
    · exfalso
      apply hq
      rw [g2.2.1 q h9, axn_a (by omega), g1.2.1 q (by omega), axn_a (by omega)]
      exact t2 q (by omega)
  have hR := rel_0 rfl f1 e2 tz hZ hI
  have hV := inv_0 hZ hI
  exact lw_loop hC hX hb hLs hQ 513 0 T2 N2 I2 R2 _ _ _ rfl (by omega) (by omega) (by omega) ⟨M, I2, _, _, hR, hV, mx_self.symm⟩

/-! THE START: what the tables give -/
def cD13 (c0 c1 c2 c3 c4 c5 c6 c7 c8 c9 c10 c11 c12 : ClassId) : Nat → ClassId := fun k => match k with
  | 0 => c0
  | 1 => c1
  | 2 => c2
  | 3 => c3
  | 4 => c4
  | 5 => c5
  | 6 => c6
  | 7 => c7
  | 8 => c8
  | 9 => c9
  | 10 => c10
  | 11 => c11
  | _ => c12
def iD13 (i0 i1 i2 i3 i4 i5 i6 i7 i8 i9 i10 i11 i12 : Nat → Nat) : Nat → Nat → Nat := fun k => match k with
  | 0 => i0
  | 1 => i1
  | 2 => i2
  | 3 => i3
  | 4 => i4
  | 5 => i5
  | 6 => i6
  | 7 => i7
  | 8 => i8
  | 9 => i9
  | 10 => i10
  | 11 => i11
  | _ => i12
def cA5 (c13 c14 c15 c16 c17 : ClassId) : Nat → ClassId := fun k => match k with
  | 13 => c13
  | 14 => c14
  | 15 => c15
  | 16 => c16
  | _ => c17
theorem st_kn {s : State} {args : Array Value} (hts : ∀ w ∈ ax_tbl, w.before args s = true) {ci n : Nat} {C : String} {Tb : u_T} {ty : Nat → FieldType} (hk : axCls ci C Tb n ty) (hi : Cond.instantiable C n ∈ ax_tbl) : ∃ (cC : ClassId) (iS : Nat → Nat), u_Kn s C Tb n cC iS := u_known hts hk.2.1 (hts _ hi)
theorem st_ai {s : State} {args : Array Value} (hts : ∀ w ∈ ax_tbl, w.before args s = true) : ∃ cA : ClassId, ArrOfT s cA .int ∧ va_RA s cA .int ∧ s.vm.findClass "[I" = some cA := by
  obtain ⟨c, k, comp, h1, h2, h3⟩ := Cond.arrayClass_spec (hts _ w_arrI)
  exact ⟨c, fun n z => ⟨fun k h => (by cases h), k, h2, comp, h3⟩, h1, h1⟩
theorem st_ao {s : State} {C : String} (h : va_AO C s) : ∃ cA : ClassId, ArrOfT s cA (.object C) ∧ va_RA s cA (.object C) := by
  obtain ⟨comp, c, k, h1, h2, h3, h4, h5⟩ := Cond.arrayOver_spec h
  exact ⟨c, fun n z => ⟨fun k h => (by cases h), k, h3, comp, h4⟩, k, comp, h3, h4, h1, h5⟩

theorem in_X0 : Cond.instantiable RX0 6 ∈ ax_tbl := (ax_mem 283 (by decide +kernel) (by decide +kernel))

theorem in_X1 : Cond.instantiable RX1 6 ∈ ax_tbl := (ax_mem 330 (by decide +kernel) (by decide +kernel))

theorem in_X2 : Cond.instantiable RX2 5 ∈ ax_tbl := (ax_mem 112 (by decide +kernel) (by decide +kernel))

theorem in_X3 : Cond.instantiable RX3 17 ∈ ax_tbl := (ax_mem 104 (by decide +kernel) (by decide +kernel))

theorem in_X4 : Cond.instantiable RX4 3 ∈ ax_tbl := (ax_mem 119 (by decide +kernel) (by decide +kernel))

theorem in_X5 : Cond.instantiable RX5 6 ∈ ax_tbl := (ax_mem 339 (by decide +kernel) (by decide +kernel))

theorem in_X6 : Cond.instantiable RX6 14 ∈ ax_tbl := (ax_mem 349 (by decide +kernel) (by decide +kernel))

theorem in_X7 : Cond.instantiable RX7 2 ∈ ax_tbl := (ax_mem 816 (by decide +kernel) (by decide +kernel))

theorem in_X8 : Cond.instantiable RX8 4 ∈ ax_tbl := (ax_mem 167 (by decide +kernel) (by decide +kernel))

theorem in_X9 : Cond.instantiable RX9 3 ∈ ax_tbl := (ax_mem 255 (by decide +kernel) (by decide +kernel))

theorem in_X10 : Cond.instantiable RX10 1 ∈ ax_tbl := (ax_mem 89 (by decide +kernel) (by decide +kernel))

theorem in_X11 : Cond.instantiable RX11 12 ∈ ax_tbl := (ax_mem 81 (by decide +kernel) (by decide +kernel))

theorem in_X12 : Cond.instantiable RX12 61 ∈ ax_tbl := (ax_mem 954 (by decide +kernel) (by decide +kernel))

theorem w_lays : Cond.laysStatic RX11 "NO_LINES" "[I" ∈ lw_tbl := List.mem_of_getElem? (i := 125) (by decide +kernel)
theorem w_ini11 : Cond.initialized RX11 ∈ lw_tbl := List.mem_of_getElem? (i := 64) (by decide +kernel)
theorem w_fln : Cond.fieldLinkNest RX4 9 "CarriedCommits" "NO_LINES" "[I" "CarriedCommits" ∈ lw_tbl := List.mem_of_getElem? (i := 124) (by decide +kernel)

theorem st_ns {s : State} {args : Array Value} (hts : ∀ w ∈ lw_tbl, w.before args s = true) : ∀ w ∈ axNs, va_Nw w s := by
  intro w hw
  have h1 : w.before args s = true := by
    unfold axNs at hw
    rcases List.mem_append.mp hw with h9 | h9
    · rw [List.mem_singleton.mp h9]; exact hts _ w_fln
    · exact hts w (List.mem_filter.mp h9).1
  rcases axNs_on hw with h2 | ⟨C, rfl⟩
  · exact va_Nw.of h2 h1
  · exact va_AO.of h1
theorem st_len {s : State} {args : Array Value} {u : Term} {v : Value} {q : Addr} {cell : Cell} (hv : (Term.length u).eval args s none [] s = some v) (g1 : u.eval args s none [] s = some (.ref q)) (g2 : s.arrayAt? q = some cell) : cell.slots.size < 2147483648 := by
  simp only [Term.eval, g1, g2, Option.bind_eq_bind, Option.bind_some] at hv
  by_cases hlt : cell.slots.size < 2147483648
  · exact hlt
  · simp [hlt] at hv
/-- the empty array that the class keeps -/
theorem st_nl {s : State} {args : Array Value} {cI : ClassId} (hI : s.vm.findClass "[I" = some cI) (hx : (Cond.exactly (.static RX11 "NO_LINES" "[I") "[I").before args s = true) (hl : (Cond.eq (.length (.static RX11 "NO_LINES" "[I")) (.int 0)).before args s = true) : ∃ (t : Nat) (cell : Cell), (Term.static RX11 "NO_LINES" "[I").eval args s none [] s = some (.ref t) ∧ s.heap[t]? = some cell ∧ cell.cls = cI ∧ cell.slots.size = 0 ∧ cell.vm.isStatics = false ∧ cell.vm ≠ .unknown := by
  obtain ⟨t, c, cell, k, h1, h2, h3, h4, h5, h6, -⟩ := Cond.exactly_spec hx
  have hv := Cond.eq_int hl (show (Term.int 0).eval args s none [] s = some (.int 0) from rfl)
  obtain ⟨t', cell', g1, g2, g3⟩ := Term.length_spec hv
  cases h1.symm.trans g1
  obtain ⟨q1, q2, -, -⟩ := State.arrayAt?_spec g2
  cases h3.symm.trans q1
  have hsz : cell.slots.size < 2147483648 := st_len hv g1 g2
  refine ⟨t, cell, h1, h3, ?_, ?_, h5, q2⟩
  · rw [h6]; exact Option.some.inj (h2.symm.trans hI)
  · have e1 : (Int32.ofNat cell.slots.size) = 0 := (Value.int.inj g3).symm
    have e2 := Int32.toInt_ofNat_small (n := cell.slots.size) hsz
    rw [e1] at e2
    have e3 : ((0 : Int32).toInt) = 0 := rfl
    omega
set_option maxHeartbeats 4000000 in
set_option maxRecDepth 100000 in
theorem st_G {s : State} {args : Array Value} (l : Launch) (hts : ∀ w ∈ lw_tbl, w.before args s = true) (hgv : (Jvm.Cond.and given_1 narrow_1).before args s = true) : ∃ G : ax_G, G.1 = l ∧ G.2.2.2.1 = s.heap.size ∧ G.2.2.2.2.2 = s.heap ∧ axK G s ∧ axO G := by
  have hs := flat_of_before _ hgv
  have hta : ∀ w ∈ ax_tbl, w.before args s = true := fun w hw => hts w (List.mem_filter.mp hw).1
  have hns := st_ns hts
  obtain ⟨c0, i0, k0⟩ := st_kn hta ck_X0 in_X0
  obtain ⟨c1, i1, k1⟩ := st_kn hta ck_X1 in_X1
  obtain ⟨c2, i2, k2⟩ := st_kn hta ck_X2 in_X2
  obtain ⟨c3, i3, k3⟩ := st_kn hta ck_X3 in_X3
  obtain ⟨c4, i4, k4⟩ := st_kn hta ck_X4 in_X4
  obtain ⟨c5, i5, k5⟩ := st_kn hta ck_X5 in_X5
  obtain ⟨c6, i6, k6⟩ := st_kn hta ck_X6 in_X6
  obtain ⟨c7, i7, k7⟩ := st_kn hta ck_X7 in_X7
  obtain ⟨c8, i8, k8⟩ := st_kn hta ck_X8 in_X8
  obtain ⟨c9, i9, k9⟩ := st_kn hta ck_X9 in_X9
  obtain ⟨c10, i10, k10⟩ := st_kn hta ck_X10 in_X10
  obtain ⟨c11, i11, k11⟩ := st_kn hta ck_X11 in_X11
  obtain ⟨c12, i12, k12⟩ := st_kn hta ck_X12 in_X12
  obtain ⟨a13, r13, s13, hI⟩ := st_ai hta
  obtain ⟨a14, r14, s14⟩ := st_ao (C := RX4) (hns _ n_o14)
  obtain ⟨a15, r15, s15⟩ := st_ao (C := RX5) (hns _ n_o15)
  obtain ⟨a16, r16, s16⟩ := st_ao (C := RX7) (hns _ n_o16)
  obtain ⟨a17, r17, s17⟩ := st_ao (C := RX9) (hns _ n_o17)
  obtain ⟨t, cell, v1, v2, v3, v4, v5, v6⟩ := st_nl hI (hs _ (by decide +kernel)) (hs _ (by decide +kernel))
  have htl : t < s.heap.size := (Array.getElem?_eq_some_iff.mp v2).1
  have hz : va_Z RX11 "NO_LINES" "[I" (.ref t) (fun q => s.heap.size ≤ q) s s.heap := va_Zof (hts _ w_lays) (hts _ w_ini11) v1 (fun q hq h9 => by omega)
  refine ⟨(l, (cD13 c0 c1 c2 c3 c4 c5 c6 c7 c8 c9 c10 c11 c12, iD13 i0 i1 i2 i3 i4 i5 i6 i7 i8 i9 i10 i11 i12), cA5 a13 a14 a15 a16 a17, s.heap.size, t, s.heap), rfl, rfl, rfl, ⟨⟨fun c q hq => ?_, fun k q hq => ?_⟩, hz, hns, va_Nc.of (hs _ (by decide +kernel)), va_Nc.of (hs _ (by decide +kernel)), va_Nc.of (hs _ (by decide +kernel))⟩, htl, rfl, cell, v2, v3, v4, v5, v6⟩
  · rcases c with _ | _ | _ | _ | _ | _ | _ | _ | _ | _ | _ | _ | _ | c
    · cases hq; exact k0
    · cases hq; exact k1
    · cases hq; exact k2
    · cases hq; exact k3
    · cases hq; exact k4
    · cases hq; exact k5
    · cases hq; exact k6
    · cases hq; exact k7
    · cases hq; exact k8
    · cases hq; exact k9
    · cases hq; exact k10
    · cases hq; exact k11
    · cases hq; exact k12
    · cases hq
  · rcases k with _ | _ | _ | _ | _ | k
    · cases hq; exact ⟨r13, s13⟩
    · cases hq; exact ⟨r14, s14⟩
    · cases hq; exact ⟨r15, s15⟩
    · cases hq; exact ⟨r16, s16⟩
    · cases hq; exact ⟨r17, s17⟩
    · cases hq

