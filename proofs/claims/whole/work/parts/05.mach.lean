/-! THE PLAIN MACHINE, 1: values are whole numbers and addresses; the heap is four functions and a size; a walk 'axX' over it is a walk W of the real machine -/
def ax_tbl : List Cond := lw_tbl.filter goodWord
theorem ax_mem {w : Cond} (i : Nat) (h : lw_tbl[i]? = some w) (hg : goodWord w = true) : w ∈ ax_tbl := List.mem_filter.mpr ⟨List.mem_of_getElem? h, hg⟩
theorem ax_good {w : Cond} (h : w ∈ ax_tbl) : (w.onTables && w.keeps) = true ∨ ∃ ty, w = .arrayClass ty := good_of_word (List.mem_filter.mp h).2
theorem ax_goodIn {y : MethodName} {b : ByteArray} {n : Nat} {r : Option FieldType} (h : Cond.code y b n r ∈ ax_tbl) : GoodIn ax_tbl (Cond.code y b n r :: ax_tbl) := by
  intro w hw
  rcases List.mem_cons.mp hw with rfl | hw
  · exact ⟨h, ax_good h⟩
  · exact ⟨hw, ax_good hw⟩
theorem ax_mems {ws : List Cond} (ps : List Nat) (hp : ws = ps.filterMap (fun i => lw_tbl[i]?)) (h : ws.all goodWord = true) : ∀ w ∈ ws, w ∈ ax_tbl := by
  intro w hw
  have h1 := List.all_eq_true.mp h w hw
  rw [hp] at hw
  obtain ⟨i, -, hi⟩ := List.mem_filterMap.mp hw
  exact ax_mem i hi h1
abbrev ax_V : Type := Int ⊕ (Option Nat ⊕ (Int ⊕ Unit))
abbrev vI (z : Int) : ax_V := Sum.inl z
abbrev vO (r : Option Nat) : ax_V := Sum.inr (Sum.inl r)
abbrev vR (a : Nat) : ax_V := vO (some a)
abbrev vN : ax_V := vO none
abbrev vL (z : Int) : ax_V := Sum.inr (Sum.inr (Sum.inl z))
abbrev vU : ax_V := Sum.inr (Sum.inr (Sum.inr ()))
def axv : ax_V → Value := fun v => match v with
  | .inl z => .int (Int32.ofInt z)
  | .inr (.inl r) => va_rf r
  | .inr (.inr (.inl z)) => .long (Int64.ofInt z)
  | .inr (.inr (.inr _)) => .float 0
theorem axv_I (z : Int) : axv (vI z) = .int (Int32.ofInt z) := rfl
theorem axv_O (r : Option Nat) : axv (vO r) = va_rf r := rfl
theorem axv_R (a : Nat) : axv (vR a) = .ref a := rfl
theorem axv_N : axv vN = .null := rfl
theorem axv_L (z : Int) : axv (vL z) = .long (Int64.ofInt z) := rfl
theorem axv_cI (z : Int) : (axv (vI z)).category = 1 := rfl
theorem axv_cO (r : Option Nat) : (axv (vO r)).category = 1 := by cases r <;> rfl
/-- the locals: vU stands for one that is not set -/
def axLs (L : List ax_V) (ls : Array Slot) : Prop := ls.size = L.length ∧ lv_wf ls ∧ (∀ v ∈ L, (axv v).category = 1) ∧ ∀ (i : Nat) (v : ax_V), L[i]? = some v → v ≠ vU → ls[i]? = some (.val (axv v))
def axl (L : List ax_V) : List (Nat × Value) := (List.range L.length).filterMap (fun j => (L[j]?).bind (fun w => if w = vU then none else some (j, axv w)))
theorem axl_mem {L : List ax_V} {q : Nat × Value} : q ∈ axl L ↔ ∃ w, L[q.1]? = some w ∧ w ≠ vU ∧ q.2 = axv w := by
  unfold axl
  rw [List.mem_filterMap]
  constructor
  · rintro ⟨j, -, h⟩
    cases hw : L[j]? with
    | none => rw [hw] at h; simp at h
    | some w =>
      rw [hw] at h
      by_cases hu : w = vU
      · simp [hu] at h
      · simp [hu] at h
        subst h
        exact ⟨w, hw, hu, rfl⟩
  · rintro ⟨w, hw, hu, he⟩
    refine ⟨q.1, List.mem_range.mpr (List.getElem?_eq_some_iff.mp hw).1, ?_⟩
    rw [hw]
    simp [hu]
    rw [← he]
theorem axLs.has {L : List ax_V} {ls : Array Slot} (h : axLs L ls) : lv_has ls L.length (axl L) := by
  refine ⟨h.1, h.2.1, fun q hq => ?_⟩
  obtain ⟨w, hw, hu, he⟩ := axl_mem.mp hq
  rw [he]
  exact h.2.2.2 q.1 w hw hu
theorem axLs.of {L : List ax_V} {ls ls' : Array Slot} {i : Nat} {v : ax_V} (h : axLs L ls) (hi : i < L.length) (hc : (axv v).category = 1) (h' : lv_has ls' L.length ((i, axv v) :: (axl L).filter (fun q => !(q.1 == i) && !(q.1 + 1 == i && q.2.category == 2)))) : axLs (L.set i v) ls' := by
  refine ⟨by rw [List.length_set]; exact h'.1, h'.2.1, fun w hw => ?_, fun j w hj hu => ?_⟩
  · rcases List.mem_or_eq_of_mem_set hw with hw | rfl
    · exact h.2.2.1 w hw
    · exact hc
  · by_cases hji : j = i
    · subst hji
      rw [List.getElem?_set_self hi] at hj
      cases hj
      exact h'.2.2 (j, axv v) List.mem_cons_self
    · rw [List.getElem?_set_ne (Ne.symm hji)] at hj
      refine h'.2.2 (j, axv w) (List.mem_cons_of_mem _ (List.mem_filter.mpr ⟨axl_mem.mpr ⟨w, hj, hu, rfl⟩, ?_⟩))
      have hcw : (axv w).category = 1 := h.2.2.1 w (List.mem_of_getElem? hj)
      simp [hji, hcw]
theorem axLs.get {L : List ax_V} {ls : Array Slot} (h : axLs L ls) {i : Nat} {v : ax_V} (hi : L[i]? = some v) (hu : v ≠ vU) : ls[i]? = some (.val (axv v)) := h.2.2.2 i v hi hu
theorem lv_args_mem (vs : List Value) : ∀ (o : Nat), (∀ v ∈ vs, v.category = 1) → ∀ (i : Nat) (v : Value), vs[i]? = some v → (o + i, v) ∈ lv_args o vs := by
  induction vs with
  | nil => intro o _ i v h; simp at h
  | cons a t ih =>
    intro o hc i v h
    have ha : a.category = 1 := hc a List.mem_cons_self
    cases i with
    | zero =>
      simp at h
      subst h
      simp [lv_args]
    | succ i =>
      simp at h
      have h1 := ih (o + 1) (fun w hw => hc w (List.mem_cons_of_mem _ hw)) i v h
      have e : o + (i + 1) = o + 1 + i := by omega
      rw [e]
      simp [lv_args, ha, h1]
theorem lg_sl_length (vs : List Value) (hc : ∀ v ∈ vs, v.category = 1) : (lg_sl vs).length = vs.length := by
  induction vs with
  | nil => rfl
  | cons a t ih =>
    have ha : a.category = 1 := hc a List.mem_cons_self
    have := ih (fun w hw => hc w (List.mem_cons_of_mem _ hw))
    simp only [lg_sl] at this ⊢
    simp [ha, this]
/-- the locals at a method's entry -/
theorem axLs_entry (as : List ax_V) (n : Nat) (hn : as.length ≤ n) (hc : ∀ v ∈ as, (axv v).category = 1) : axLs (as ++ List.replicate (n - as.length) vU) ((lg_sl (as.map axv) ++ List.replicate (n - (lg_sl (as.map axv)).length) Slot.unset).toArray) := by
  have hc' : ∀ v ∈ as.map axv, v.category = 1 := by
    intro v hv
    obtain ⟨w, hw, rfl⟩ := List.mem_map.mp hv
    exact hc w hw
  have hlen := lg_sl_length _ hc'
  have h := lv_entry (as.map axv) (n := n) (by rw [hlen, List.length_map]; exact hn)
  refine ⟨?_, h.2.1, ?_, ?_⟩
  · rw [h.1]; simp; omega
  · intro v hv
    rcases List.mem_append.mp hv with hv | hv
    · exact hc v hv
    · rw [List.eq_of_mem_replicate hv]; rfl
  · intro i v hi hu
    by_cases hl : i < as.length
    · rw [List.getElem?_append_left hl] at hi
      have h1 : (as.map axv)[i]? = some (axv v) := by rw [List.getElem?_map, hi]; rfl
      have h2 := lv_args_mem (as.map axv) 0 hc' i (axv v) h1
      rw [Nat.zero_add] at h2
      exact h.2.2 _ h2
    · rw [List.getElem?_append_right (by omega)] at hi
      exact absurd (List.eq_of_mem_replicate (List.mem_of_getElem? hi)) hu
/-! the heap -/
abbrev ax_P : Type := Option ax_V → (Nat → Nat) → (Nat → Int) → (Nat → Int → Int) → (Nat → Int → Option Nat) → Nat → Prop
abbrev ax_G : Type := Launch × va_G × (Nat → ClassId) × Nat × Nat × Heap
abbrev ax_F : Type := Program × Env × Room × State × MethodId × Array Value × List Frame × Method × Code
abbrev ax_Y : Type := MethodName × ByteArray × Nat × Option FieldType
def ax_u {α : Type} (I : Nat → Int → α) (a : Nat) (j : Int) (v : α) : Nat → Int → α := fun b i => if b = a ∧ i = j then v else I b i
def ax_n {α : Type} (f : Nat → α) (a : Nat) (v : α) : Nat → α := fun b => if b = a then v else f b
abbrev ax_r (z : Int) : Prop := -2147483648 ≤ z ∧ z < 2147483648
/-- which fields are numbers -/
def axB (ci k : Nat) : Bool := match (vwCl[ci]?).map (fun q => (q.2.1 k).2.2.1) with
  | some "I" => true
  | some "Z" => true
  | _ => false
def axNf (ci : Nat) : Nat := match vwCl[ci]? with
  | some q => q.2.2
  | none => 0
def axVal (ci : Nat) (i : Int → Int) (r : Int → Option Nat) (k : Nat) : Value := if axB ci k then .int (Int32.ofInt (i (k : Int))) else va_rf (r (k : Int))
def axAt (G : ax_G) (T : Nat → Nat) (N : Nat → Int) (I : Nat → Int → Int) (R : Nat → Int → Option Nat) (a : Nat) (H : Heap) : Prop :=
  if T a < 13 then t_OB a (G.2.1.1 (T a)) (axNf (T a)) (G.2.1.2 (T a)) H (axVal (T a) (I a) (R a))
  else if T a = 13 then H[a]? = some (arrV (G.2.2.1 13) (N a).toNat (fun j => .int (Int32.ofInt (I a (j : Int)))))
  else H[a]? = some (arrV (G.2.2.1 (T a)) (N a).toNat (fun j => va_rf (R a (j : Int))))
def axH (G : ax_G) (T : Nat → Nat) (N : Nat → Int) (I : Nat → Int → Int) (R : Nat → Int → Option Nat) (z : Nat) (H : Heap) : Prop :=
  H.size = z ∧ G.2.2.2.1 ≤ z ∧ (∀ a, T a ≠ 99 → (a = G.2.2.2.2.1 ∧ T a = 13 ∧ N a = 0) ∨ (G.2.2.2.1 ≤ a ∧ a < z ∧ axAt G T N I R a H)) ∧ (∀ q, q < G.2.2.2.1 → H[q]? = G.2.2.2.2.2[q]?) ∧ ∀ a, 0 ≤ N a ∧ N a < 2147483648
def axtys (cA : Nat → ClassId) : List (ClassId × FieldType) := [(cA 13, .int), (cA 14, .object RX4), (cA 15, .object RX5), (cA 16, .object RX7), (cA 17, .object RX9)]
/-- the words that don't keep by themselves -/
def axNs : List Cond := [.fieldLinkNest RX4 9 "CarriedCommits" "NO_LINES" "[I" "CarriedCommits"] ++ lw_tbl.filter (fun w => match w with
  | .methodLinkNest _ _ _ _ => true
  | .castable _ _ => true
  | .arrayOver (.object _) => true
  | _ => false)
def axK (G : ax_G) (U : State) : Prop := va_K G.2.1 vwCl (axtys G.2.2.1) U ∧ va_Z RX11 "NO_LINES" "[I" (.ref G.2.2.2.2.1) (fun q => G.2.2.2.1 ≤ q) U G.2.2.2.2.2 ∧ (∀ w ∈ axNs, va_Nw w U) ∧ va_Nc RX5 RX1 U ∧ va_Nc RX5 RX0 U ∧ va_Nc RX1 RX0 U
def axO (G : ax_G) : Prop := G.2.2.2.2.1 < G.2.2.2.1 ∧ G.2.2.2.2.2.size = G.2.2.2.1 ∧ ∃ cell : Cell, G.2.2.2.2.2[G.2.2.2.2.1]? = some cell ∧ cell.cls = G.2.2.1 13 ∧ cell.slots.size = 0 ∧ cell.vm.isStatics = false ∧ cell.vm ≠ .unknown
theorem axNs_warm {s U : State} (hW : s.WarmedH U.vm) (h : ∀ w ∈ axNs, va_Nw w s) : ∀ w ∈ axNs, va_Nw w U := by
  intro w hw
  have h0 := h w hw
  unfold axNs at hw
  rcases List.mem_append.mp hw with hw | hw
  · simp at hw
    subst hw
    exact va_Nw.warmF hW h0
  · have h2 := (List.mem_filter.mp hw).2
    split at h2
    · exact va_Nw.warmM hW h0
    · exact va_Nw.warmC hW h0
    · exact va_AO.moved hW.alike h0
    · cases h2
theorem axK.warm {G : ax_G} {s U : State} (hW : s.WarmedH U.vm) (h : axK G s) : axK G U :=
  ⟨va_K.moved hW.alike h.1, va_Z.moved hW.alike h.2.1, axNs_warm hW h.2.2.1, va_Nc.moved hW.alike h.2.2.2.1, va_Nc.moved hW.alike h.2.2.2.2.1, va_Nc.moved hW.alike h.2.2.2.2.2⟩
def axPc (G : ax_G) (as : List ax_V) (T : Nat → Nat) (N : Nat → Int) (I : Nat → Int → Int) (R : Nat → Int → Option Nat) (z : Nat) : Array Value → State → Prop := fun v U => v = (as.map axv).toArray ∧ axH G T N I R z U.heap ∧ axK G U
def axQc (G : ax_G) (Q : ax_P) : Array Value → State → Outcome → State → Prop := fun _ _ o t => ∃ r T N I R z, o = .returned (r.map axv) ∧ Q r T N I R z ∧ axH G T N I R z t.heap
def axRm (d k n : Nat) : Room := { frames := d, cells := k, slots := n, locals := 42 * d }
/-- a method's contract at one start: it comes back, with Q -/
def axM (G : ax_G) (Y : ax_Y) (d : Nat) (as : List ax_V) (T : Nat → Nat) (N : Nat → Int) (I : Nat → Int → Int) (R : Nat → Int → Option Nat) (z : Nat) (k n : Nat) (Q : ax_P) : Prop :=
  axO G → Met G.1 Y.1 (Cond.code Y.1 Y.2.1 Y.2.2.1 Y.2.2.2 :: ax_tbl) (axRm d k n) (axPc G as T N I R z) (axQc G Q) k n (fun q => G.2.2.2.1 ≤ q)
/-- what holds all along a method's body -/
def axC (G : ax_G) (f : ax_F) (Y : ax_Y) (own : String) (d k n : Nat) : Prop :=
  f.1.tables.exec = Jvm.exec ∧ f.2.2.2.2.2.2.2.2.code = Y.2.1 ∧ f.2.2.2.2.2.2.2.2.maxLocals = Y.2.2.1 ∧ f.2.2.2.2.2.2.2.1.sig.returnType = Y.2.2.2 ∧ f.2.2.2.2.2.2.2.1.locks = false ∧ f.2.2.2.1.vm.findClass own = some f.2.2.2.2.1.cls ∧ (∀ w ∈ ax_tbl, w.before f.2.2.2.2.2.1 f.2.2.2.1 = true) ∧ axK G f.2.2.2.1 ∧ axO G ∧ f.2.2.1 = axRm d k n ∧ f.2.2.2.2.2.2.2.1.name = Y.1.name
/-- the walk -/
def axX (G : ax_G) (f : ax_F) (mc ms : Nat) (Q : ax_P) (pc : Nat) (L st : List ax_V) (T : Nat → Nat) (N : Nat → Int) (I : Nat → Int → Int) (R : Nat → Int → Option Nat) (z k n : Nat) : Prop :=
  ∀ (H : Heap) (locs : List Loc) (ls : Array Slot), axH G T N I R z H → (∀ q ∈ locs, G.2.2.2.1 ≤ q.base) → axLs L ls → k ≤ mc → n ≤ ms →
    W f.1 G.1 f.2.1 f.2.2.1 f.2.2.2.1 f.2.2.2.2.1 f.2.2.2.2.2.1 f.2.2.2.2.2.2.1 f.2.2.2.2.2.2.2.1 f.2.2.2.2.2.2.2.2 H locs (mc - k) (ms - n) (MQ f.2.2.2.2.2.2.1 (axQc G Q) f.2.2.2.2.2.1 f.2.2.2.1 mc ms (fun q => G.2.2.2.1 ≤ q)) (F0 f.2.2.2.2.1 pc ls (st.map axv))
set_option maxHeartbeats 1000000 in
theorem ax_enter {G : ax_G} {Y : ax_Y} {d : Nat} {as : List ax_V} {T : Nat → Nat} {N : Nat → Int} {I : Nat → Int → Int} {R : Nat → Int → Option Nat} {z k n : Nat} {Q : ax_P} (hp : plainName Y.1.cls = true) (hl : as.length ≤ Y.2.2.1) (hc : ∀ v ∈ as, (axv v).category = 1)
    (body : ∀ f, axC G f Y Y.1.cls d k n → axX G f k n Q 0 (as ++ List.replicate (Y.2.2.1 - as.length) vU) [] T N I R z k n) : axM G Y d as T N I R z k n Q := by
  intro hO
  refine Met.ofW (cc := Y.2.1) (maxL := Y.2.2.1) (ret := Y.2.2.2) hp rfl ?_
  intro p e s m args below meth c s₁ B hml hv
  obtain ⟨rfl, hH, hK⟩ := hv
  have hts := atoms_spec (ws := Cond.code Y.1 Y.2.1 Y.2.2.1 Y.2.2.2 :: ax_tbl) B.pre
  have hown : s.vm.findClass Y.1.cls = some m.cls := findClass_of_methodNamed B.named
  have C : axC G (p, e, (headSpec (Cond.code Y.1 Y.2.1 Y.2.2.1 Y.2.2.2 :: ax_tbl) (axRm d k n)).room, s, m, (as.map axv).toArray, below, meth, c) Y Y.1.cls d k n :=
    ⟨B.exec, B.bytes, hml, B.returns, B.notSynchronized, hown, fun w hw => hts w (List.mem_cons_of_mem _ hw), hK, hO, rfl, (name_of_methodNamed B.named B.method).1⟩
  have h := body _ C s.heap [] _ hH (fun q h => by cases h) (axLs_entry as Y.2.2.1 hl hc) (Nat.le_refl _) (Nat.le_refl _)
  rw [lg_entry_eq]
  simpa using h
