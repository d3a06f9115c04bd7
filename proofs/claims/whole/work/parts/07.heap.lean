/-! THE PLAIN MACHINE, 3: fields, arrays, new cells -/
theorem axu_s {α : Type} {I : Nat → Int → α} {a : Nat} {j : Int} {v : α} : ax_u I a j v a j = v := if_pos ⟨rfl, rfl⟩
theorem axu_a {α : Type} {I : Nat → Int → α} {a b : Nat} {j i : Int} {v : α} (h : b ≠ a) : ax_u I a j v b i = I b i := if_neg (fun q => h q.1)
theorem axu_j {α : Type} {I : Nat → Int → α} {a b : Nat} {j i : Int} {v : α} (h : i ≠ j) : ax_u I a j v b i = I b i := if_neg (fun q => h q.2)
theorem axu_row {α : Type} {I : Nat → Int → α} {a b : Nat} {j : Int} {v : α} (h : b ≠ a) : ax_u I a j v b = I b := funext fun i => axu_a h
theorem axn_s {α : Type} {f : Nat → α} {a : Nat} {v : α} : ax_n f a v a = v := if_pos rfl
theorem axn_a {α : Type} {f : Nat → α} {a b : Nat} {v : α} (h : b ≠ a) : ax_n f a v b = f b := if_neg h
/-- what a class's number stands for -/
def axCls (ci : Nat) (C : String) (Tb : u_T) (nf : Nat) (ty : Nat → FieldType) : Prop := vwCl[ci]? = some (C, Tb, nf) ∧ (∀ w ∈ u_ws C Tb nf, w ∈ ax_tbl) ∧ (∀ k, k < nf → parseFieldDescriptor (Tb k).2.2.1 = some (ty k)) ∧ (∀ a, a < nf → ∀ b, b < nf → a ≠ b → (Tb a).2.1 ≠ (Tb b).2.1) ∧ ci < 13
theorem axCls.nf {ci : Nat} {C : String} {Tb : u_T} {nf : Nat} {ty : Nat → FieldType} (h : axCls ci C Tb nf ty) : axNf ci = nf := by unfold axNf; rw [h.1]
/-- a getfield site: number kf of class ci -/
def axGet (own : String) (idx ci : Nat) (kf : Int) (b : Bool) : Prop := ∃ (C : String) (Tb : u_T) (nf : Nat) (ty : Nat → FieldType) (ref : String) (j : Nat), axCls ci C Tb nf ty ∧ (j : Int) = kf ∧ j < nf ∧ axB ci j = b ∧ Cond.fieldLink own idx ref (Tb j).2.1 (Tb j).2.2.1 ∈ ax_tbl ∧ ((Tb j).1 = ref ∨ Cond.sameField ref (Tb j).1 (Tb j).2.1 (Tb j).2.2.1 ∈ ax_tbl)
/-- a putfield site: fin: a final field, in its own class's constructor -/
def axPut (own : String) (idx ci : Nat) (kf : Int) (fin : Bool) (ty1 : FieldType) : Prop := ∃ (C : String) (Tb : u_T) (nf : Nat) (ty : Nat → FieldType) (ref : String) (j : Nat), axCls ci C Tb nf ty ∧ (j : Int) = kf ∧ j < nf ∧ ty j = ty1 ∧ (axB ci j = true ↔ (ty1 = .int ∨ ty1 = .boolean)) ∧ (Tb j).2.2.2 = fin ∧ (fin = true → (Tb j).1 = own) ∧ Cond.fieldLink own idx ref (Tb j).2.1 (Tb j).2.2.1 ∈ ax_tbl ∧ (Tb j).1 = ref
section AXH
variable {G : ax_G} {f : ax_F} {Y : ax_Y} {own : String} {d mc ms : Nat} {Q : ax_P} {pc : Nat} {L st : List ax_V} {T : Nat → Nat} {N : Nat → Int} {I : Nat → Int → Int} {R : Nat → Int → Option Nat} {z k n : Nat}
theorem axH.obj {H : Heap} {a ci : Nat} (h : axH G T N I R z H) (ht : T a = ci) (hc : ci < 13) : G.2.2.2.1 ≤ a ∧ a < z ∧ t_OB a (G.2.1.1 ci) (axNf ci) (G.2.1.2 ci) H (axVal ci (I a) (R a)) := by
  rcases h.2.2.1 a (by omega) with ⟨-, h2, -⟩ | ⟨h1, h2, h3⟩
  · omega
  · refine ⟨h1, h2, ?_⟩
    unfold axAt at h3
    rw [if_pos (by omega), ht] at h3
    exact h3
theorem axH.arr {H : Heap} {a : Nat} (h : axH G T N I R z H) (ht : T a = 13) (hn : 0 < N a) : G.2.2.2.1 ≤ a ∧ a < z ∧ H[a]? = some (arrV (G.2.2.1 13) (N a).toNat (fun j => .int (Int32.ofInt (I a (j : Int))))) := by
  rcases h.2.2.1 a (by omega) with ⟨-, -, h2⟩ | ⟨h1, h2, h3⟩
  · omega
  · refine ⟨h1, h2, ?_⟩
    unfold axAt at h3
    rw [if_neg (by omega), if_pos ht] at h3
    exact h3
theorem axH.rarr {H : Heap} {a ta : Nat} (h : axH G T N I R z H) (ht : T a = ta) (h1 : 14 ≤ ta) (h2 : ta ≤ 17) : G.2.2.2.1 ≤ a ∧ a < z ∧ H[a]? = some (arrV (G.2.2.1 ta) (N a).toNat (fun j => va_rf (R a (j : Int)))) := by
  rcases h.2.2.1 a (by omega) with ⟨-, h2, -⟩ | ⟨h1, h2, h3⟩
  · omega
  · refine ⟨h1, h2, ?_⟩
    unfold axAt at h3
    rw [if_neg (by omega), if_neg (by omega), ht] at h3
    exact h3
/-- one cell changes -/
theorem axH.set {H H1 : Heap} {a : Nat} {I1 : Nat → Int → Int} {R1 : Nat → Int → Option Nat} (h : axH G T N I R z H) (hz : H1.size = H.size) (ha : G.2.2.2.1 ≤ a) (haz : a < z) (oq : ∀ q, q ≠ a → H1[q]? = H[q]?) (hI : ∀ b, b ≠ a → I1 b = I b) (hR : ∀ b, b ≠ a → R1 b = R b) (he : axAt G T N I1 R1 a H1) : axH G T N I1 R1 z H1 := by
  refine ⟨hz.trans h.1, h.2.1, fun b hb => ?_, fun q hq => ?_, h.2.2.2.2⟩
  · rcases h.2.2.1 b hb with h1 | ⟨h1, h2, h3⟩
    · exact Or.inl h1
    · refine Or.inr ⟨h1, h2, ?_⟩
      by_cases hba : b = a
      · subst hba; exact he
      · unfold axAt at h3 ⊢
        rw [hI b hba, hR b hba]
        split
        · rw [if_pos (by assumption)] at h3
          exact h3.kept (oq b hba)
        · rw [if_neg (by assumption)] at h3
          split
          · rw [if_pos (by assumption)] at h3
            rw [oq b hba]; exact h3
          · rw [if_neg (by assumption)] at h3
            rw [oq b hba]; exact h3
  · rw [oq q (by omega)]; exact h.2.2.2.1 q hq
/-- one cell comes -/
theorem axH.push {H H1 : Heap} {T1 : Nat → Nat} {N1 : Nat → Int} {I1 : Nat → Int → Int} {R1 : Nat → Int → Option Nat} (h : axH G T N I R z H) (hz : H1.size = z + 1) (oq : ∀ q, q < z → H1[q]? = H[q]?) (hT : ∀ b, b ≠ z → T1 b = T b) (hN : ∀ b, b ≠ z → N1 b = N b) (hI : ∀ b, b ≠ z → I1 b = I b) (hR : ∀ b, b ≠ z → R1 b = R b) (hNz : 0 ≤ N1 z ∧ N1 z < 2147483648) (he : axAt G T1 N1 I1 R1 z H1) : axH G T1 N1 I1 R1 (z + 1) H1 := by
  refine ⟨hz, by have := h.2.1; omega, fun b hb => ?_, fun q hq => ?_, fun b => ?_⟩
  · by_cases hbz : b = z
    · subst hbz
      exact Or.inr ⟨h.2.1, by omega, he⟩
    · rw [hT b hbz] at hb
      rcases h.2.2.1 b hb with ⟨h1, h2, h3⟩ | ⟨h1, h2, h3⟩
      · exact Or.inl ⟨h1, by rw [hT b hbz]; exact h2, by rw [hN b hbz]; exact h3⟩
      · refine Or.inr ⟨h1, by omega, ?_⟩
        unfold axAt at h3 ⊢
        rw [hT b hbz, hN b hbz, hI b hbz, hR b hbz]
        split
        · rw [if_pos (by assumption)] at h3
          exact h3.kept (oq b h2)
        · rw [if_neg (by assumption)] at h3
          split
          · rw [if_pos (by assumption)] at h3
            rw [oq b h2]; exact h3
          · rw [if_neg (by assumption)] at h3
            rw [oq b h2]; exact h3
  · rw [oq q (by have := h.2.1; omega)]; exact h.2.2.2.1 q hq
  · by_cases hbz : b = z
    · subst hbz; exact hNz
    · rw [hN b hbz]; exact h.2.2.2.2 b
theorem axVal_I {ci j : Nat} {i : Int → Int} {r : Int → Option Nat} (h : axB ci j = true) : axVal ci i r j = .int (Int32.ofInt (i (j : Int))) := by unfold axVal; rw [if_pos h]
theorem axVal_O {ci j : Nat} {i : Int → Int} {r : Int → Option Nat} (h : axB ci j = false) : axVal ci i r j = va_rf (r (j : Int)) := by unfold axVal; rw [h]; rfl
set_option maxHeartbeats 1000000 in
theorem x_get0 (hC : axC G f Y own d mc ms) {idx ci a : Nat} {kf : Int} {b : Bool} {v : ax_V} (hg : axGet own idx ci kf b) (hd : decode Y.2.1 pc = .ok (.getfield idx, 3)) (ht : T a = ci) (hv : ∀ j : Nat, (j : Int) = kf → axB ci j = b → axVal ci (I a) (R a) j = axv v) (kk : axX G f mc ms Q (pc + 3) L (v :: st) T N I R z k n) : axX G f mc ms Q pc L (vR a :: st) T N I R z k n := by
  intro H locs ls hH hl hL hk hn
  obtain ⟨C, Tb, nf, ty, ref, j, hcl, hj, hjn, hb, hfl, hsame⟩ := hg
  obtain ⟨ha1, ha2, cell, q1, q2, q3, q4⟩ := hH.obj ht hcl.2.2.2.2
  have hts := hC.2.2.2.2.2.2.1
  have hK := hC.2.2.2.2.2.2.2.1
  obtain ⟨hS, hfc, kC, hkC, hkind⟩ := hK.1.1 ci _ hcl.1
  obtain ⟨cf, kf', fi, fd, hi, hsl⟩ := hS j hjn
  have hi2 : f.2.2.2.1.fieldFound? ref (Tb j).2.1 (Tb j).2.2.1 = some (cf, kf', fi, fd) := by
    rcases hsame with h | h
    · rw [← h]; exact hi
    · exact u_same (hts _ h) _ hi
  refine W.getf hC.1 hC.2.1 hC.2.2.2.2.2.1 (hts _ hfl) hi2 (u_facts hfc hkC (u_lays hts hcl.2.1 hjn) hi).1 q1 (by rw [q3]; exact fun h => by cases h) (v := axv v) ?_ rfl rfl hd (kk H locs ls hH hl hL hk hn)
  rw [hsl, q4 j (by rw [hcl.nf]; exact hjn), hv j hj hb]
theorem x_getI (hC : axC G f Y own d mc ms) {idx ci a : Nat} {kf : Int} (hg : axGet own idx ci kf true) (hd : decode Y.2.1 pc = .ok (.getfield idx, 3)) (ht : T a = ci) (kk : axX G f mc ms Q (pc + 3) L (vI (I a kf) :: st) T N I R z k n) : axX G f mc ms Q pc L (vR a :: st) T N I R z k n :=
  x_get0 hC hg hd ht (fun j hj hb => by rw [axVal_I hb, hj]; rfl) kk
theorem x_getO (hC : axC G f Y own d mc ms) {idx ci a : Nat} {kf : Int} {r : Option Nat} (hg : axGet own idx ci kf false) (hd : decode Y.2.1 pc = .ok (.getfield idx, 3)) (ht : T a = ci) (hr : R a kf = r) (kk : axX G f mc ms Q (pc + 3) L (vO r :: st) T N I R z k n) : axX G f mc ms Q pc L (vR a :: st) T N I R z k n :=
  x_get0 hC hg hd ht (fun j hj hb => by rw [axVal_O hb, hj, hr]; rfl) kk
set_option maxHeartbeats 1000000 in
theorem x_put0 (hC : axC G f Y own d mc ms) {idx ci a : Nat} {kf : Int} {fin : Bool} {ty1 : FieldType} {v : ax_V} {I1 : Nat → Int → Int} {R1 : Nat → Int → Option Nat} (hg : axPut own idx ci kf fin ty1) (hd : decode Y.2.1 pc = .ok (.putfield idx, 3)) (ht : T a = ci) (hfin : fin = true → Y.1.name = "<init>") (hn : narrow ty1 (axv v) = axv v) (hfit : fits ty1 (axv v) = true) (hI : ∀ b, b ≠ a → I1 b = I b) (hR : ∀ b, b ≠ a → R1 b = R b)
    (hv : ∀ j : Nat, (j : Int) = kf → (axB ci j = true ↔ (ty1 = .int ∨ ty1 = .boolean)) → ∀ i, updV (axVal ci (I a) (R a)) j (axv v) i = axVal ci (I1 a) (R1 a) i) (kk : axX G f mc ms Q (pc + 3) L st T N I1 R1 z k n) : axX G f mc ms Q pc L (v :: vR a :: st) T N I R z k n := by
  intro H locs ls hH hl hL hk hn'
  obtain ⟨C, Tb, nf, ty, ref, j, hcl, hj, hjn, hty, hb, hfi, hdecl, hfl, hsame⟩ := hg
  obtain ⟨ha1, ha2, cell, q1, q2, q3, q4⟩ := hH.obj ht hcl.2.2.2.2
  have hts := hC.2.2.2.2.2.2.1
  have hown := hC.2.2.2.2.2.1
  have hK := hC.2.2.2.2.2.2.2.1
  have hap := va_apart (own := own) hts hcl.2.1 ty hcl.2.2.1 hcl.2.2.2.1 hK.1 hcl.1
  obtain ⟨hS, hfc, kC, hkC, hkind⟩ := hK.1.1 ci _ hcl.1
  obtain ⟨cf, kf', fi, fd, hi, hsl⟩ := hS j hjn
  have hi2 : f.2.2.2.1.fieldFound? ref (Tb j).2.1 (Tb j).2.2.1 = some (cf, kf', fi, fd) := by rw [← hsame]; exact hi
  have hlay := hts _ (hcl.2.1 _ (u_in_lay hjn))
  have hst := (u_facts hfc hkC (u_lays hts hcl.2.1 hjn) hi).1
  have hdsc : parseFieldDescriptor (Tb j).2.2.1 = some ty1 := by rw [← hty]; exact hcl.2.2.1 j hjn
  have hnf := hcl.nf
  have hlt : fd.slot < cell.slots.size := by rw [hsl]; exact k2_hasslot (q4 j (by rw [hnf]; exact hjn))
  have fin2 : ∀ (H1 : Heap), H1[a]? = some (cell.setSlot fd.slot (axv v)) → H1.size = H.size → (∀ q, q ≠ a → H1[q]? = H[q]?) → axH G T N I1 R1 z H1 := by
    intro H1 e1 e2 e3
    refine hH.set e2 ha1 ha2 e3 hI hR ?_
    unfold axAt
    rw [if_pos (by rw [ht]; exact hcl.2.2.2.2), ht]
    rw [hsl] at e1
    exact t_OB.to ⟨_, e1, q2, q3, t_set q4 (by rw [hnf]; exact hap) (by rw [hnf]; exact hjn) (axv v)⟩ (fun i _ => hv j hj hb i)
  cases hfe : fin with
  | false =>
    unfold u_lay at hlay
    rw [if_neg (by rw [hfi, hfe]; decide)] at hlay
    have h6 := u_store hfc hkC hkind hlay hi hdsc hn hfit
    refine W.putK hC.1 hC.2.1 (f := fd) ⟨hown, hts _ hfl, ⟨_, _, _, hi2⟩, hst⟩ (by rw [q2]; exact h6) q1 q3 hlt rfl rfl hd fun H1 e1 e2 e3 => ?_
    exact kk H1 _ ls (fin2 H1 e1 e2 e3) (fun q hq => (List.mem_append.mp hq).elim (hl q) (fun h => by rw [List.mem_singleton.mp h]; exact ha1)) hL hk hn'
  | true =>
    unfold u_lay at hlay
    rw [if_pos (by rw [hfi, hfe])] at hlay
    have hcf : f.2.2.2.2.1.cls = cf := by
      obtain ⟨_, _, c', _, _, _, -, -, hf', -, -, -, hown2, -⟩ := Cond.laysFinal_spec hlay
      have e1 : c' = cf := by have := hi.symm.trans hf'; simp at this; exact this.1.symm
      rw [hdecl hfe] at hown2
      rw [← e1]; exact Option.some.inj (hown.symm.trans hown2)
    have h6 := u_fits hfc hkC hkind (Or.inr hlay) hi hdsc hn hfit
    refine W.putFinK hC.1 hC.2.1 hown (hts _ hfl) hi2 hst hcf (by rw [hC.2.2.2.2.2.2.2.2.2.2]; exact hfin hfe) (by rw [q2]; exact h6) q1 q3 hlt rfl rfl hd fun H1 e1 e2 e3 => ?_
    exact kk H1 _ ls (fin2 H1 e1 e2 e3) (fun q hq => (List.mem_append.mp hq).elim (hl q) (fun h => by rw [List.mem_singleton.mp h]; exact ha1)) hL hk hn'
theorem ax_updI {ci j : Nat} {I : Nat → Int → Int} {r : Int → Option Nat} {a : Nat} {x : Int} (hb : axB ci j = true) (i : Nat) : updV (axVal ci (I a) r) j (.int (Int32.ofInt x)) i = axVal ci (ax_u I a (j : Int) x a) r i := by
  by_cases h : i = j
  · subst h
    rw [axVal_I hb, axu_s]; simp [updV]
  · have h2 : ((i : Nat) : Int) ≠ (j : Int) := by omega
    simp only [updV, if_neg h, axVal, axu_j h2]
theorem ax_updO {ci j : Nat} {i0 : Int → Int} {R : Nat → Int → Option Nat} {a : Nat} {x : Option Nat} (hb : axB ci j = false) (i : Nat) : updV (axVal ci i0 (R a)) j (va_rf x) i = axVal ci i0 (ax_u R a (j : Int) x a) i := by
  by_cases h : i = j
  · subst h
    rw [axVal_O hb, axu_s]; simp [updV]
  · have h2 : ((i : Nat) : Int) ≠ (j : Int) := by omega
    simp only [updV, if_neg h, axVal, axu_j h2]
theorem x_putI (hC : axC G f Y own d mc ms) {idx ci a : Nat} {kf x : Int} {fin : Bool} (hg : axPut own idx ci kf fin .int) (hd : decode Y.2.1 pc = .ok (.putfield idx, 3)) (ht : T a = ci) (hfin : fin = true → Y.1.name = "<init>") (kk : axX G f mc ms Q (pc + 3) L st T N (ax_u I a kf x) R z k n) : axX G f mc ms Q pc L (vI x :: vR a :: st) T N I R z k n :=
  x_put0 hC hg hd ht hfin rfl rfl (fun b hb => axu_row hb) (fun _ _ => rfl) (fun j hj hb i => by subst hj; exact ax_updI (hb.mpr (Or.inl rfl)) i) kk
theorem x_putZ (hC : axC G f Y own d mc ms) {idx ci a : Nat} {kf x : Int} {fin : Bool} (hg : axPut own idx ci kf fin .boolean) (hd : decode Y.2.1 pc = .ok (.putfield idx, 3)) (ht : T a = ci) (hfin : fin = true → Y.1.name = "<init>") (hx : x = 0 ∨ x = 1) (kk : axX G f mc ms Q (pc + 3) L st T N (ax_u I a kf x) R z k n) : axX G f mc ms Q pc L (vI x :: vR a :: st) T N I R z k n :=
  x_put0 hC hg hd ht hfin (by rcases hx with rfl | rfl <;> rfl) (by rcases hx with rfl | rfl <;> rfl) (fun b hb => axu_row hb) (fun _ _ => rfl) (fun j hj hb i => by subst hj; exact ax_updI (hb.mpr (Or.inr rfl)) i) kk
theorem x_putO (hC : axC G f Y own d mc ms) {idx ci a : Nat} {kf : Int} {x : Option Nat} {fin : Bool} {ty1 : FieldType} (hg : axPut own idx ci kf fin ty1) (hd : decode Y.2.1 pc = .ok (.putfield idx, 3)) (hty : (∃ c, ty1 = .object c) ∨ ∃ t, ty1 = .array t) (ht : T a = ci) (hfin : fin = true → Y.1.name = "<init>") (kk : axX G f mc ms Q (pc + 3) L st T N I (ax_u R a kf x) z k n) : axX G f mc ms Q pc L (vO x :: vR a :: st) T N I R z k n :=
  x_put0 hC hg hd ht hfin (by rcases hty with ⟨c, rfl⟩ | ⟨c, rfl⟩ <;> cases x <;> rfl) (by rcases hty with ⟨c, rfl⟩ | ⟨c, rfl⟩ <;> cases x <;> rfl) (fun _ _ => rfl) (fun b hb => axu_row hb) (fun j hj hb i => by
    subst hj
    refine ax_updO ?_ i
    cases hb2 : axB ci j with
    | false => rfl
    | true =>
      rcases hb.mp hb2 with h | h <;> rcases hty with ⟨c, h2⟩ | ⟨c, h2⟩ <;> rw [h] at h2 <;> cases h2) kk
theorem ax_isArr (hC : axC G f Y own d mc ms) {ta : Nat} {ty : FieldType} {i : Nat} (h : (axtys G.2.2.1)[i]? = some (G.2.2.1 ta, ty)) : ArrOfT f.2.2.2.1 (G.2.2.1 ta) ty := (hC.2.2.2.2.2.2.2.1.1.2 i _ h).1
theorem x_iald (hC : axC G f Y own d mc ms) {a : Nat} {j : Int} (hd : decode Y.2.1 pc = .ok (.iaload, 1)) (ht : T a = 13) (h0 : 0 ≤ j) (h1 : j < N a) (kk : axX G f mc ms Q (pc + 1) L (vI (I a j) :: st) T N I R z k n) : axX G f mc ms Q pc L (vI j :: vR a :: st) T N I R z k n := by
  intro H locs ls hH hl hL hk hn
  have hN := hH.2.2.2.2 a
  obtain ⟨-, -, hc⟩ := hH.arr ht (by omega)
  have hr : ax_r j := ⟨by omega, by omega⟩
  have hcl := ax_clamp hr
  have hj : ((j.toNat : Nat) : Int) = j := Int.toNat_of_nonneg h0
  refine W.iald (v := axv (vI (I a j))) (j := Int32.ofInt j) hC.1 hC.2.1 hc (ax_isArr hC (i := 0) rfl _ _) (fun q => by cases q) ?_ ?_ rfl rfl hd (kk H locs ls hH hl hL hk hn)
  · rw [arrV_size, hcl]
    rintro (h | h)
    · rw [ax_0, ax_lt hr ax_r0] at h; omega
    · omega
  · rw [hcl, arrV_read _ _ (by omega)]
    rw [hj]; rfl
theorem x_iast (hC : axC G f Y own d mc ms) {a : Nat} {j x : Int} (hd : decode Y.2.1 pc = .ok (.iastore, 1)) (ht : T a = 13) (h0 : 0 ≤ j) (h1 : j < N a) (kk : axX G f mc ms Q (pc + 1) L st T N (ax_u I a j x) R z k n) : axX G f mc ms Q pc L (vI x :: vI j :: vR a :: st) T N I R z k n := by
  intro H locs ls hH hl hL hk hn
  have hN := hH.2.2.2.2 a
  obtain ⟨ha1, ha2, hc⟩ := hH.arr ht (by omega)
  have hr : ax_r j := ⟨by omega, by omega⟩
  have hcl := ax_clamp hr
  have hj : ((j.toNat : Nat) : Int) = j := Int.toNat_of_nonneg h0
  refine W.iast (j := Int32.ofInt j) (x := Int32.ofInt x) hC.1 hC.2.1 hc (ax_isArr hC (i := 0) rfl _ _) (fun q => by cases q) ?_ rfl rfl hd fun H1 e1 e2 e3 => ?_
  · rw [arrV_size, hcl]
    rintro (h | h)
    · rw [ax_0, ax_lt hr ax_r0] at h; omega
    · omega
  · refine kk H1 _ ls (hH.set e2 ha1 ha2 e3 (fun b hb => axu_row hb) (fun _ _ => rfl) ?_) (fun q hq => (List.mem_append.mp hq).elim (hl q) (fun h => by rw [List.mem_singleton.mp h]; exact ha1)) hL hk hn
    unfold axAt
    rw [if_neg (by omega), if_pos ht, e1, arrV_store, hcl]
    congr 2
    funext q
    by_cases hq : q = j.toNat
    · subst hq
      simp only [updV, if_true]
      rw [hj, axu_s]
    · have h2 : ((q : Nat) : Int) ≠ j := by omega
      simp only [updV, if_neg hq, axu_j h2]
theorem x_alen (hC : axC G f Y own d mc ms) {a : Nat} (hd : decode Y.2.1 pc = .ok (.arraylength, 1)) (ht : 13 ≤ T a) (ht2 : T a ≤ 17) (kk : axX G f mc ms Q (pc + 1) L (vI (N a) :: st) T N I R z k n) : axX G f mc ms Q pc L (vR a :: st) T N I R z k n := by
  intro H locs ls hH hl hL hk hn
  have hN := hH.2.2.2.2 a
  have hsz : ∀ m : Nat, (m : Int) = N a → m.toInt32 = Int32.ofInt (N a) := by
    intro m hm
    rw [← hm, Int32.ofInt_eq_ofNat]
  have hto : (((N a).toNat : Nat) : Int) = N a := Int.toNat_of_nonneg hN.1
  rcases hH.2.2.1 a (by omega) with ⟨h1, h2, h3⟩ | ⟨h1, h2, h3⟩
  · obtain ⟨hO1, hO2, cell, c1, c2, c3, c4, c5⟩ := hC.2.2.2.2.2.2.2.2.1
    have hcell : H[a]? = some cell := by rw [hH.2.2.2.1 a (by rw [h1]; exact hO1), h1]; exact c1
    have hk0 := ax_isArr hC (ta := 13) (ty := .int) (i := 0) rfl 0 (fun _ => .int 0)
    refine W.alen (n := Int32.ofInt (N a)) (ty := .int) hC.1 hC.2.1 hcell ⟨fun q h => (by rw [h] at c4; cases c4), (by rw [c2]; exact hk0.2)⟩ (by rw [c3]; exact hsz 0 (by rw [h3]; rfl)) rfl rfl hd (kk H locs ls hH hl hL hk hn)
  · unfold axAt at h3
    rw [if_neg (by omega)] at h3
    by_cases h13 : T a = 13
    · rw [if_pos h13] at h3
      exact W.alen (n := Int32.ofInt (N a)) (ty := .int) hC.1 hC.2.1 h3 (ax_isArr hC (i := 0) rfl _ _) (by rw [arrV_size]; exact hsz _ hto) rfl rfl hd (kk H locs ls hH hl hL hk hn)
    · rw [if_neg h13] at h3
      rcases (show T a = 14 ∨ T a = 15 ∨ T a = 16 ∨ T a = 17 by omega) with h | h | h | h <;> rw [h] at h3
      · exact W.alen (n := Int32.ofInt (N a)) (ty := .object RX4) hC.1 hC.2.1 h3 (ax_isArr hC (i := 1) rfl _ _) (by rw [arrV_size]; exact hsz _ hto) rfl rfl hd (kk H locs ls hH hl hL hk hn)
      · exact W.alen (n := Int32.ofInt (N a)) (ty := .object RX5) hC.1 hC.2.1 h3 (ax_isArr hC (i := 2) rfl _ _) (by rw [arrV_size]; exact hsz _ hto) rfl rfl hd (kk H locs ls hH hl hL hk hn)
      · exact W.alen (n := Int32.ofInt (N a)) (ty := .object RX7) hC.1 hC.2.1 h3 (ax_isArr hC (i := 3) rfl _ _) (by rw [arrV_size]; exact hsz _ hto) rfl rfl hd (kk H locs ls hH hl hL hk hn)
      · exact W.alen (n := Int32.ofInt (N a)) (ty := .object RX9) hC.1 hC.2.1 h3 (ax_isArr hC (i := 4) rfl _ _) (by rw [arrV_size]; exact hsz _ hto) rfl rfl hd (kk H locs ls hH hl hL hk hn)
/-- the arrays of objects: which number, what they hold -/
def axEl (ta i : Nat) (C : String) : Prop := 14 ≤ ta ∧ ta ≤ 17 ∧ ∀ cA : Nat → ClassId, (axtys cA)[i]? = some (cA ta, .object C)
theorem axEl_14 : axEl 14 1 RX4 := ⟨by decide, by decide, fun _ => rfl⟩
theorem axEl_15 : axEl 15 2 RX5 := ⟨by decide, by decide, fun _ => rfl⟩
theorem axEl_16 : axEl 16 3 RX7 := ⟨by decide, by decide, fun _ => rfl⟩
theorem axEl_17 : axEl 17 4 RX9 := ⟨by decide, by decide, fun _ => rfl⟩
theorem x_aald (hC : axC G f Y own d mc ms) {a ta i : Nat} {C : String} {j : Int} {r : Option Nat} (he : axEl ta i C) (hd : decode Y.2.1 pc = .ok (.aaload, 1)) (ht : T a = ta) (h0 : 0 ≤ j) (h1 : j < N a) (hr0 : R a j = r) (kk : axX G f mc ms Q (pc + 1) L (vO r :: st) T N I R z k n) : axX G f mc ms Q pc L (vI j :: vR a :: st) T N I R z k n := by
  intro H locs ls hH hl hL hk hn
  have hN := hH.2.2.2.2 a
  obtain ⟨-, -, hc⟩ := hH.rarr ht he.1 he.2.1
  have hr : ax_r j := ⟨by omega, by omega⟩
  have hcl := ax_clamp hr
  have hj : ((j.toNat : Nat) : Int) = j := Int.toNat_of_nonneg h0
  refine W.aald (v := axv (vO r)) (j := Int32.ofInt j) (ty := .object C) hC.1 hC.2.1 hc (ax_isArr hC (he.2.2 _) _ _) rfl (fun q => by cases q) ?_ ?_ rfl rfl hd (kk H locs ls hH hl hL hk hn)
  · rw [arrV_size, hcl]
    rintro (h | h)
    · rw [ax_0, ax_lt hr ax_r0] at h; omega
    · omega
  · rw [hcl, arrV_read _ _ (by omega)]
    rw [hj, hr0]; rfl
/-- what may be put into an array of Cs: nothing, or an object of class ci that C takes -/
def axTakes (C : String) (ci : Nat) : Prop := ∃ (C1 : String) (Tb : u_T) (nf : Nat) (ty : Nat → FieldType), axCls ci C1 Tb nf ty ∧ (C1 = C ∨ Cond.castable C1 C ∈ axNs)
set_option maxHeartbeats 1000000 in
theorem x_aast (hC : axC G f Y own d mc ms) {a ta i : Nat} {C : String} {j : Int} {x : Option Nat} (he : axEl ta i C) (hd : decode Y.2.1 pc = .ok (.aastore, 1)) (ht : T a = ta) (h0 : 0 ≤ j) (h1 : j < N a) (hx : ∀ v, x = some v → axTakes C (T v)) (kk : axX G f mc ms Q (pc + 1) L st T N I (ax_u R a j x) z k n) : axX G f mc ms Q pc L (vO x :: vI j :: vR a :: st) T N I R z k n := by
  intro H locs ls hH hl hL hk hn
  have hN := hH.2.2.2.2 a
  obtain ⟨ha1, ha2, hc⟩ := hH.rarr ht he.1 he.2.1
  have hr : ax_r j := ⟨by omega, by omega⟩
  have hcl := ax_clamp hr
  have hj : ((j.toNat : Nat) : Int) = j := Int.toNat_of_nonneg h0
  have hlo : ∀ (b0 : Nat) (sl : Nat), b0 = a → ∀ q ∈ locs ++ [(⟨b0, sl⟩ : Loc)], G.2.2.2.1 ≤ q.base := fun b0 sl hb q hq => (List.mem_append.mp hq).elim (hl q) (fun h => by rw [List.mem_singleton.mp h, hb]; exact ha1)
  have fin2 : ∀ (H1 : Heap), H1[a]? = some ((arrV (G.2.2.1 ta) (N a).toNat (fun j => va_rf (R a (j : Int)))).setSlot (Int32.ofInt j).toNatClampNeg (va_rf x)) → H1.size = H.size → (∀ q, q ≠ a → H1[q]? = H[q]?) → axH G T N I (ax_u R a j x) z H1 := by
    intro H1 e1 e2 e3
    refine hH.set e2 ha1 ha2 e3 (fun _ _ => rfl) (fun b hb => axu_row hb) ?_
    have h14 := he.1
    unfold axAt
    rw [if_neg (by omega), if_neg (by omega), ht, e1, arrV_store, hcl]
    congr 2
    funext q
    by_cases hq : q = j.toNat
    · subst hq
      simp only [updV, if_true]
      rw [hj, axu_s]
    · have h2 : ((q : Nat) : Int) ≠ j := by omega
      simp only [updV, if_neg hq, axu_j h2]
  have hin : ¬ (Int32.ofInt j < 0 ∨ (arrV (G.2.2.1 ta) (N a).toNat (fun j => va_rf (R a (j : Int)))).slots.size ≤ (Int32.ofInt j).toNatClampNeg) := by
    rw [arrV_size, hcl]
    rintro (h | h)
    · rw [ax_0, ax_lt hr ax_r0] at h; omega
    · omega
  cases x with
  | none =>
    refine va_WaastN (C := C) (j := Int32.ofInt j) hC.1 hC.2.1 hc (ax_isArr hC (he.2.2 _) _ _) (fun q => by cases q) hin rfl rfl hd fun H1 e1 e2 e3 => ?_
    exact kk H1 _ ls (fin2 H1 e1 e2 e3) (hlo _ _ rfl) hL hk hn
  | some v =>
    obtain ⟨C1, Tb, nf, ty, hcl1, hcast⟩ := hx v rfl
    have hK := hC.2.2.2.2.2.2.2.1
    obtain ⟨kA, comp, k1, k2, k3, -⟩ := (hK.1.2 i _ (he.2.2 _)).2
    obtain ⟨hv1, hv2, cellV, g1, g2, g3, -⟩ := hH.obj rfl hcl1.2.2.2.2
    have hcls := (hK.1.1 (T v) _ hcl1.1).2
    obtain ⟨kC, hkC, hkk⟩ := hcls.2
    obtain ⟨kE, hkE, -⟩ := Vm.findClass_spec k3
    have hasg : f.2.2.2.1.vm.assignable cellV.cls comp = true := by
      rw [g2]
      rcases hcast with h | h
      · have hcomp : comp = G.2.1.1 (T v) := by
          have h5 := hcls.1
          rw [show ((C1, Tb, nf) : vw_C).1 = C1 from rfl, h] at h5
          exact Option.some.inj (k3.symm.trans h5)
        rw [hcomp]
        exact va_assign hcls
      · obtain ⟨c0, t0, f1, f2, f3⟩ := Cond.castable_spec (va_Nw.use (A := f.2.2.2.2.2.1) rfl (hK.2.2.1 _ h))
        cases hcls.1.symm.trans f1
        cases k3.symm.trans f2
        exact f3
    refine W.aast hC.1 hC.2.1 (j := Int32.ofInt j) (v := v) hc (fun q h => by cases h) (fun h => by cases h) k1 k2 rfl hkE ⟨fun h => hin (Or.inl h), Nat.not_le.mp fun h => hin (Or.inr h)⟩ g1 (fun q h => by rw [g3] at h; cases h) (by rw [g2]; exact hkC) hasg rfl rfl hd fun H1 e1 e2 e3 => ?_
    exact kk H1 _ ls (fin2 H1 e1 e2 e3) (hlo _ _ rfl) hL hk hn
end AXH
