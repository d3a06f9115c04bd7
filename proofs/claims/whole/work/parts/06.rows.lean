/-! THE PLAIN MACHINE, 2: a row an instruction -/
theorem ax_toInt {z : Int} (h : ax_r z) : (Int32.ofInt z).toInt = z := Int32.toInt_ofInt_of_le (by have := h.1; omega) (by have := h.2; omega)
theorem ax_lt {x y : Int} (hx : ax_r x) (hy : ax_r y) : Int32.ofInt x < Int32.ofInt y ↔ x < y := by rw [Int32.lt_iff_toInt_lt, ax_toInt hx, ax_toInt hy]
theorem ax_le {x y : Int} (hx : ax_r x) (hy : ax_r y) : Int32.ofInt x ≤ Int32.ofInt y ↔ x ≤ y := by rw [Int32.le_iff_toInt_le, ax_toInt hx, ax_toInt hy]
theorem ax_eq {x y : Int} (hx : ax_r x) (hy : ax_r y) : Int32.ofInt x = Int32.ofInt y ↔ x = y := by rw [← Int32.toInt_inj, ax_toInt hx, ax_toInt hy]
theorem ax_0 : (0 : Int32) = Int32.ofInt 0 := rfl
theorem ax_r0 : ax_r 0 := by decide
theorem ax_clamp {z : Int} (h : ax_r z) : (Int32.ofInt z).toNatClampNeg = z.toNat := Int32.toNatClampNeg_ofInt_of_le (by have := h.1; omega) (by have := h.2; omega)
/-- a truth as a number -/
def bI (P : Prop) [Decidable P] : Int := if P then 1 else 0
theorem bI_t {P : Prop} [Decidable P] (h : P) : bI P = 1 := if_pos h
theorem bI_f {P : Prop} [Decidable P] (h : ¬ P) : bI P = 0 := if_neg h
theorem bI_01 (P : Prop) [Decidable P] : bI P = 0 ∨ bI P = 1 := by unfold bI; split <;> simp
theorem bI_r (P : Prop) [Decidable P] : ax_r (bI P) := by unfold bI; split <;> decide
theorem bI_0 {P : Prop} [Decidable P] : bI P = 0 ↔ ¬ P := by unfold bI; split <;> simp_all
theorem bI_1 {P : Prop} [Decidable P] : ¬ bI P = 0 ↔ P := by unfold bI; split <;> simp_all
theorem bI_c {P P' : Prop} [Decidable P] [Decidable P'] (h : P ↔ P') : bI P = bI P' := by unfold bI; by_cases hp : P <;> simp [hp, h.mp, ← h]
section AXR
variable {G : ax_G} {f : ax_F} {Y : ax_Y} {own : String} {d mc ms : Nat} {Q : ax_P} {pc : Nat} {L st : List ax_V} {T : Nat → Nat} {N : Nat → Int} {I : Nat → Int → Int} {R : Nat → Int → Option Nat} {z k n : Nat}
theorem axX.go {pc' : Nat} {L' st' : List ax_V} (h : ∀ (H : Heap) (locs : List Loc) (ls : Array Slot) (cells slots : Nat) (Q0 : State → Prop), axLs L ls → (∀ ls', axLs L' ls' → W f.1 G.1 f.2.1 f.2.2.1 f.2.2.2.1 f.2.2.2.2.1 f.2.2.2.2.2.1 f.2.2.2.2.2.2.1 f.2.2.2.2.2.2.2.1 f.2.2.2.2.2.2.2.2 H locs cells slots Q0 (F0 f.2.2.2.2.1 pc' ls' (st'.map axv))) → W f.1 G.1 f.2.1 f.2.2.1 f.2.2.2.1 f.2.2.2.2.1 f.2.2.2.2.2.1 f.2.2.2.2.2.2.1 f.2.2.2.2.2.2.2.1 f.2.2.2.2.2.2.2.2 H locs cells slots Q0 (F0 f.2.2.2.2.1 pc ls (st.map axv)))
    (kk : axX G f mc ms Q pc' L' st' T N I R z k n) : axX G f mc ms Q pc L st T N I R z k n := fun H locs ls hH hl hL hk hn => h H locs ls _ _ _ hL (fun ls' hL' => kk H locs ls' hH hl hL' hk hn)
theorem x_iconst (hC : axC G f Y own d mc ms) {v : Int} (hd : decode Y.2.1 pc = .ok (.iconst v, 1)) (kk : axX G f mc ms Q (pc + 1) L (vI v :: st) T N I R z k n) : axX G f mc ms Q pc L st T N I R z k n :=
  axX.go (fun H locs ls cells slots Q0 hL k => lv_iconst hC.1 hC.2.1 hd rfl (k ls hL)) kk
theorem x_bipush (hC : axC G f Y own d mc ms) {v : Int} (hd : decode Y.2.1 pc = .ok (.bipush v, 2)) (hv : (Int8.ofInt v).toInt32 = Int32.ofInt v) (kk : axX G f mc ms Q (pc + 2) L (vI v :: st) T N I R z k n) : axX G f mc ms Q pc L st T N I R z k n :=
  axX.go (fun H locs ls cells slots Q0 hL k => lv_bipush hC.1 hC.2.1 hd hv (k ls hL)) kk
theorem x_sipush (hC : axC G f Y own d mc ms) {v : Int} (hd : decode Y.2.1 pc = .ok (.sipush v, 3)) (hv : (Int16.ofInt v).toInt32 = Int32.ofInt v) (kk : axX G f mc ms Q (pc + 3) L (vI v :: st) T N I R z k n) : axX G f mc ms Q pc L st T N I R z k n :=
  axX.go (fun H locs ls cells slots Q0 hL k => lv_sipush hC.1 hC.2.1 hd hv (k ls hL)) kk
theorem x_null (hC : axC G f Y own d mc ms) (hd : decode Y.2.1 pc = .ok (.aconst_null, 1)) (kk : axX G f mc ms Q (pc + 1) L (vN :: st) T N I R z k n) : axX G f mc ms Q pc L st T N I R z k n :=
  axX.go (fun H locs ls cells slots Q0 hL k => lv_null hC.1 hC.2.1 hd (k ls hL)) kk
theorem x_iload_n (hC : axC G f Y own d mc ms) {i : Fin 4} {x : Int} (hd : decode Y.2.1 pc = .ok (.iload_n i, 1)) (hl : L[(i : Nat)]? = some (vI x)) (kk : axX G f mc ms Q (pc + 1) L (vI x :: st) T N I R z k n) : axX G f mc ms Q pc L st T N I R z k n :=
  axX.go (fun H locs ls cells slots Q0 hL k => lv_iload_n hC.1 hC.2.1 hd rfl (hL.get hl (by simp)) (k ls hL)) kk
theorem x_iload (hC : axC G f Y own d mc ms) {i : Nat} {x : Int} (hd : decode Y.2.1 pc = .ok (.iload i, 2)) (hl : L[i]? = some (vI x)) (kk : axX G f mc ms Q (pc + 2) L (vI x :: st) T N I R z k n) : axX G f mc ms Q pc L st T N I R z k n :=
  axX.go (fun H locs ls cells slots Q0 hL k => lv_iload hC.1 hC.2.1 hd (hL.get hl (by simp)) (k ls hL)) kk
theorem x_aload_n (hC : axC G f Y own d mc ms) {i : Fin 4} {r : Option Nat} (hd : decode Y.2.1 pc = .ok (.aload_n i, 1)) (hl : L[(i : Nat)]? = some (vO r)) (kk : axX G f mc ms Q (pc + 1) L (vO r :: st) T N I R z k n) : axX G f mc ms Q pc L st T N I R z k n := by
  refine axX.go (fun H locs ls cells slots Q0 hL k => ?_) kk
  cases r with
  | none => exact lv_aload_nN hC.1 hC.2.1 hd rfl (hL.get hl (by simp)) (k ls hL)
  | some a => exact lv_aload_n hC.1 hC.2.1 hd rfl (hL.get hl (by simp)) (k ls hL)
theorem x_aload (hC : axC G f Y own d mc ms) {i : Nat} {r : Option Nat} (hd : decode Y.2.1 pc = .ok (.aload i, 2)) (hl : L[i]? = some (vO r)) (kk : axX G f mc ms Q (pc + 2) L (vO r :: st) T N I R z k n) : axX G f mc ms Q pc L st T N I R z k n := by
  refine axX.go (fun H locs ls cells slots Q0 hL k => ?_) kk
  cases r with
  | none => exact lv_aloadN hC.1 hC.2.1 hd (hL.get hl (by simp)) (k ls hL)
  | some a => exact lv_aload hC.1 hC.2.1 hd (hL.get hl (by simp)) (k ls hL)
theorem x_istore_n (hC : axC G f Y own d mc ms) {i : Fin 4} {x : Int} (hd : decode Y.2.1 pc = .ok (.istore_n i, 1)) (hi : (i : Nat) < L.length) (kk : axX G f mc ms Q (pc + 1) (L.set i (vI x)) st T N I R z k n) : axX G f mc ms Q pc L (vI x :: st) T N I R z k n :=
  axX.go (fun H locs ls cells slots Q0 hL k => lv_istore_n hC.1 hC.2.1 hd rfl hL.has hi rfl (fun ls' h' => k ls' (hL.of (v := vI x) hi rfl h'))) kk
theorem x_istore (hC : axC G f Y own d mc ms) {i : Nat} {x : Int} (hd : decode Y.2.1 pc = .ok (.istore i, 2)) (hi : i < L.length) (kk : axX G f mc ms Q (pc + 2) (L.set i (vI x)) st T N I R z k n) : axX G f mc ms Q pc L (vI x :: st) T N I R z k n :=
  axX.go (fun H locs ls cells slots Q0 hL k => lv_istore hC.1 hC.2.1 hd hL.has hi rfl (fun ls' h' => k ls' (hL.of (v := vI x) hi rfl h'))) kk
theorem x_astore_n (hC : axC G f Y own d mc ms) {i : Fin 4} {r : Option Nat} (hd : decode Y.2.1 pc = .ok (.astore_n i, 1)) (hi : (i : Nat) < L.length) (kk : axX G f mc ms Q (pc + 1) (L.set i (vO r)) st T N I R z k n) : axX G f mc ms Q pc L (vO r :: st) T N I R z k n := by
  refine axX.go (fun H locs ls cells slots Q0 hL k => ?_) kk
  cases r with
  | none => exact lv_astore_nN hC.1 hC.2.1 hd rfl hL.has hi rfl (fun ls' h' => k ls' (hL.of (v := vN) hi rfl h'))
  | some a => exact lv_astore_n hC.1 hC.2.1 hd rfl hL.has hi rfl (fun ls' h' => k ls' (hL.of (v := vR a) hi rfl h'))
theorem x_astore (hC : axC G f Y own d mc ms) {i : Nat} {r : Option Nat} (hd : decode Y.2.1 pc = .ok (.astore i, 2)) (hi : i < L.length) (kk : axX G f mc ms Q (pc + 2) (L.set i (vO r)) st T N I R z k n) : axX G f mc ms Q pc L (vO r :: st) T N I R z k n := by
  refine axX.go (fun H locs ls cells slots Q0 hL k => ?_) kk
  cases r with
  | none => exact lv_astoreN hC.1 hC.2.1 hd hL.has hi rfl (fun ls' h' => k ls' (hL.of (v := vN) hi rfl h'))
  | some a => exact lv_astore hC.1 hC.2.1 hd hL.has hi rfl (fun ls' h' => k ls' (hL.of (v := vR a) hi rfl h'))
theorem x_iinc (hC : axC G f Y own d mc ms) {i : Nat} {v x : Int} (hd : decode Y.2.1 pc = .ok (.iinc i v, 3)) (hl : L[i]? = some (vI x)) (kk : axX G f mc ms Q (pc + 3) (L.set i (vI (x + v))) st T N I R z k n) : axX G f mc ms Q pc L st T N I R z k n := by
  refine axX.go (fun H locs ls cells slots Q0 hL kk => ?_) kk
  have hi : i < L.length := (List.getElem?_eq_some_iff.mp hl).1
  have hm : (i, axv (vI x)) ∈ axl L := axl_mem.mpr ⟨vI x, hl, by simp, rfl⟩
  obtain ⟨j, hj⟩ := List.getElem?_of_mem hm
  exact lv_iinc (v := Int32.ofInt (x + v)) hC.1 hC.2.1 hd hL.has hj (by simp) hi rfl (fun ls' h' => kk ls' (hL.of (v := vI (x + v)) hi rfl h'))
theorem x_iadd (hC : axC G f Y own d mc ms) {x y : Int} (hd : decode Y.2.1 pc = .ok (.iadd, 1)) (kk : axX G f mc ms Q (pc + 1) L (vI (x + y) :: st) T N I R z k n) : axX G f mc ms Q pc L (vI y :: vI x :: st) T N I R z k n :=
  axX.go (fun H locs ls cells slots Q0 hL k => lv_iadd hC.1 hC.2.1 hd (by rw [← Int32.ofInt_add]; exact k ls hL)) kk
theorem x_isub (hC : axC G f Y own d mc ms) {x y : Int} (hd : decode Y.2.1 pc = .ok (.isub, 1)) (kk : axX G f mc ms Q (pc + 1) L (vI (x - y) :: st) T N I R z k n) : axX G f mc ms Q pc L (vI y :: vI x :: st) T N I R z k n :=
  axX.go (fun H locs ls cells slots Q0 hL k => lv_isub hC.1 hC.2.1 hd (by rw [← Int32.ofInt_sub]; exact k ls hL)) kk
theorem x_imul (hC : axC G f Y own d mc ms) {x y : Int} (hd : decode Y.2.1 pc = .ok (.imul, 1)) (kk : axX G f mc ms Q (pc + 1) L (vI (x * y) :: st) T N I R z k n) : axX G f mc ms Q pc L (vI y :: vI x :: st) T N I R z k n :=
  axX.go (fun H locs ls cells slots Q0 hL k => lv_imul hC.1 hC.2.1 hd (by rw [← Int32.ofInt_mul]; exact k ls hL)) kk
theorem x_irem (hC : axC G f Y own d mc ms) {x y : Int} (hd : decode Y.2.1 pc = .ok (.irem, 1)) (hx : ax_r x) (hx0 : 0 ≤ x) (hy : ax_r y) (hy0 : 0 < y) (kk : axX G f mc ms Q (pc + 1) L (vI (x % y) :: st) T N I R z k n) : axX G f mc ms Q pc L (vI y :: vI x :: st) T N I R z k n := by
  refine axX.go (fun H locs ls cells slots Q0 hL k => ?_) kk
  have hy1 : ¬ Int32.ofInt y = 0 := fun h => by rw [ax_0, ax_eq hy ax_r0] at h; omega
  refine lv_irem hC.1 hC.2.1 hd hy1 ?_
  have e : Int32.ofInt x - Int32.ofInt x / Int32.ofInt y * Int32.ofInt y = Int32.ofInt (x % y) := by
    have e1 : Int32.ofInt x / Int32.ofInt y = Int32.ofInt (x / y) := by
      apply Int32.toInt_inj.mp
      have hyn : Int32.ofInt y ≠ -1 := fun h => by
        have h2 := congrArg Int32.toInt h
        rw [ax_toInt hy] at h2
        have h3 : (-1 : Int32).toInt = -1 := by decide
        rw [h3] at h2
        omega
      rw [Int32.toInt_div_of_ne_right _ _ hyn, ax_toInt hx, ax_toInt hy]
      have hq : 0 ≤ x / y := Int.ediv_nonneg hx0 (by omega)
      have hq2 : x / y ≤ x := Int.ediv_le_self y hx0
      rw [ax_toInt ⟨by omega, by have := hx.2; omega⟩]
      exact Int.tdiv_eq_ediv_of_nonneg hx0
    rw [e1, ← Int32.ofInt_mul, ← Int32.ofInt_sub]
    congr 1
    have := Int.emod_add_mul_ediv x y
    rw [Int.mul_comm (x / y) y]
    omega
  rw [e]
  exact k ls hL
theorem x_i2b (hC : axC G f Y own d mc ms) {x : Int} (hd : decode Y.2.1 pc = .ok (.i2b, 1)) (hx : ax_r x) (kk : axX G f mc ms Q (pc + 1) L (vI (x.bmod 256) :: st) T N I R z k n) : axX G f mc ms Q pc L (vI x :: st) T N I R z k n :=
  axX.go (fun H locs ls cells slots Q0 hL k => lv_i2b (v := Int32.ofInt (x.bmod 256)) hC.1 hC.2.1 hd (by
    rw [← Int32.ofInt_int8ToInt, Int32.toInt_toInt8, ax_toInt hx]) (k ls hL)) kk
theorem x_i2l (hC : axC G f Y own d mc ms) {x : Int} (hd : decode Y.2.1 pc = .ok (.i2l, 1)) (hx : ax_r x) (kk : axX G f mc ms Q (pc + 1) L (vL x :: st) T N I R z k n) : axX G f mc ms Q pc L (vI x :: st) T N I R z k n :=
  axX.go (fun H locs ls cells slots Q0 hL k => lv_i2l (v := Int64.ofInt x) hC.1 hC.2.1 hd (by
    have h : (Int32.ofInt x).toInt64.toInt = x := by rw [Int32.toInt_toInt64, ax_toInt hx]
    rw [← Int64.ofInt_toInt (Int32.ofInt x).toInt64, h]) (k ls hL)) kk
theorem x_dup (hC : axC G f Y own d mc ms) {v : ax_V} (hd : decode Y.2.1 pc = .ok (.dup, 1)) (hv : (axv v).category = 1) (kk : axX G f mc ms Q (pc + 1) L (v :: v :: st) T N I R z k n) : axX G f mc ms Q pc L (v :: st) T N I R z k n :=
  axX.go (fun H locs ls cells slots Q0 hL k => lv_dup hC.1 hC.2.1 hd hv (k ls hL)) kk
theorem x_dup2 (hC : axC G f Y own d mc ms) {v w : ax_V} (hd : decode Y.2.1 pc = .ok (.dup2, 1)) (hv : (axv v).category = 1) (hw : (axv w).category = 1) (kk : axX G f mc ms Q (pc + 1) L (v :: w :: v :: w :: st) T N I R z k n) : axX G f mc ms Q pc L (v :: w :: st) T N I R z k n :=
  axX.go (fun H locs ls cells slots Q0 hL k => lv_dup2_11 hC.1 hC.2.1 hd hv hw (k ls hL)) kk
theorem x_pop (hC : axC G f Y own d mc ms) {v : ax_V} (hd : decode Y.2.1 pc = .ok (.pop, 1)) (hv : (axv v).category = 1) (kk : axX G f mc ms Q (pc + 1) L st T N I R z k n) : axX G f mc ms Q pc L (v :: st) T N I R z k n :=
  axX.go (fun H locs ls cells slots Q0 hL k => lv_pop hC.1 hC.2.1 hd hv (k ls hL)) kk
theorem x_goto (hC : axC G f Y own d mc ms) {off : Int} (tgt : Nat) (hd : decode Y.2.1 pc = .ok (.goto off, 3)) (ht : (pc : Int) + off = (tgt : Int)) (kk : axX G f mc ms Q tgt L st T N I R z k n) : axX G f mc ms Q pc L st T N I R z k n :=
  axX.go (fun H locs ls cells slots Q0 hL k => lv_goto hC.1 hC.2.1 hd ht (k ls hL)) kk
theorem x_icmp_eq (hC : axC G f Y own d mc ms) {off : Int} (tgt : Nat) {x y : Int} (hd : decode Y.2.1 pc = .ok (.if_icmp .eq off, 3)) (ht : (pc : Int) + off = (tgt : Int)) (hx : ax_r x) (hy : ax_r y) (kt : x = y → axX G f mc ms Q tgt L st T N I R z k n) (kf : ¬ x = y → axX G f mc ms Q (pc + 3) L st T N I R z k n) : axX G f mc ms Q pc L (vI y :: vI x :: st) T N I R z k n :=
  fun H locs ls hH hl hL hk hn => lv_icmp_eq hC.1 hC.2.1 hd ht (fun h => kt ((ax_eq hx hy).mp h) H locs ls hH hl hL hk hn) (fun h => kf (fun q => h ((ax_eq hx hy).mpr q)) H locs ls hH hl hL hk hn)
/-- two numbers that are the same, whatever their size -/
theorem x_icmp_same (hC : axC G f Y own d mc ms) {off : Int} (tgt : Nat) {x y : Int} (hd : decode Y.2.1 pc = .ok (.if_icmp .eq off, 3)) (ht : (pc : Int) + off = (tgt : Int)) (hxy : x = y) (kt : axX G f mc ms Q tgt L st T N I R z k n) : axX G f mc ms Q pc L (vI y :: vI x :: st) T N I R z k n :=
  fun H locs ls hH hl hL hk hn => lv_icmp_eq hC.1 hC.2.1 hd ht (fun _ => kt H locs ls hH hl hL hk hn) (fun h => absurd (by rw [hxy]) h)
theorem x_icmp_ne (hC : axC G f Y own d mc ms) {off : Int} (tgt : Nat) {x y : Int} (hd : decode Y.2.1 pc = .ok (.if_icmp .ne off, 3)) (ht : (pc : Int) + off = (tgt : Int)) (hx : ax_r x) (hy : ax_r y) (kt : ¬ x = y → axX G f mc ms Q tgt L st T N I R z k n) (kf : x = y → axX G f mc ms Q (pc + 3) L st T N I R z k n) : axX G f mc ms Q pc L (vI y :: vI x :: st) T N I R z k n :=
  fun H locs ls hH hl hL hk hn => lv_icmp_ne hC.1 hC.2.1 hd ht (fun h => kt (fun q => h ((ax_eq hx hy).mpr q)) H locs ls hH hl hL hk hn) (fun h => kf ((ax_eq hx hy).mp h) H locs ls hH hl hL hk hn)
theorem x_icmp_lt (hC : axC G f Y own d mc ms) {off : Int} (tgt : Nat) {x y : Int} (hd : decode Y.2.1 pc = .ok (.if_icmp .lt off, 3)) (ht : (pc : Int) + off = (tgt : Int)) (hx : ax_r x) (hy : ax_r y) (kt : x < y → axX G f mc ms Q tgt L st T N I R z k n) (kf : ¬ x < y → axX G f mc ms Q (pc + 3) L st T N I R z k n) : axX G f mc ms Q pc L (vI y :: vI x :: st) T N I R z k n :=
  fun H locs ls hH hl hL hk hn => lv_icmp_lt hC.1 hC.2.1 hd ht (fun h => kt ((ax_lt hx hy).mp h) H locs ls hH hl hL hk hn) (fun h => kf (fun q => h ((ax_lt hx hy).mpr q)) H locs ls hH hl hL hk hn)
theorem x_icmp_ge (hC : axC G f Y own d mc ms) {off : Int} (tgt : Nat) {x y : Int} (hd : decode Y.2.1 pc = .ok (.if_icmp .ge off, 3)) (ht : (pc : Int) + off = (tgt : Int)) (hx : ax_r x) (hy : ax_r y) (kt : y ≤ x → axX G f mc ms Q tgt L st T N I R z k n) (kf : ¬ y ≤ x → axX G f mc ms Q (pc + 3) L st T N I R z k n) : axX G f mc ms Q pc L (vI y :: vI x :: st) T N I R z k n :=
  fun H locs ls hH hl hL hk hn => lv_icmp_ge hC.1 hC.2.1 hd ht (fun h => kt ((ax_le hy hx).mp h) H locs ls hH hl hL hk hn) (fun h => kf (fun q => h ((ax_le hy hx).mpr q)) H locs ls hH hl hL hk hn)
theorem x_icmp_gt (hC : axC G f Y own d mc ms) {off : Int} (tgt : Nat) {x y : Int} (hd : decode Y.2.1 pc = .ok (.if_icmp .gt off, 3)) (ht : (pc : Int) + off = (tgt : Int)) (hx : ax_r x) (hy : ax_r y) (kt : y < x → axX G f mc ms Q tgt L st T N I R z k n) (kf : ¬ y < x → axX G f mc ms Q (pc + 3) L st T N I R z k n) : axX G f mc ms Q pc L (vI y :: vI x :: st) T N I R z k n :=
  fun H locs ls hH hl hL hk hn => lv_icmp_gt hC.1 hC.2.1 hd ht (fun h => kt ((ax_lt hy hx).mp h) H locs ls hH hl hL hk hn) (fun h => kf (fun q => h ((ax_lt hy hx).mpr q)) H locs ls hH hl hL hk hn)
theorem x_icmp_le (hC : axC G f Y own d mc ms) {off : Int} (tgt : Nat) {x y : Int} (hd : decode Y.2.1 pc = .ok (.if_icmp .le off, 3)) (ht : (pc : Int) + off = (tgt : Int)) (hx : ax_r x) (hy : ax_r y) (kt : x ≤ y → axX G f mc ms Q tgt L st T N I R z k n) (kf : ¬ x ≤ y → axX G f mc ms Q (pc + 3) L st T N I R z k n) : axX G f mc ms Q pc L (vI y :: vI x :: st) T N I R z k n :=
  fun H locs ls hH hl hL hk hn => lv_icmp_le hC.1 hC.2.1 hd ht (fun h => kt ((ax_le hx hy).mp h) H locs ls hH hl hL hk hn) (fun h => kf (fun q => h ((ax_le hx hy).mpr q)) H locs ls hH hl hL hk hn)
theorem x_if_eq (hC : axC G f Y own d mc ms) {off : Int} (tgt : Nat) {x : Int} (hd : decode Y.2.1 pc = .ok (.ifCond .eq off, 3)) (ht : (pc : Int) + off = (tgt : Int)) (hx : ax_r x) (kt : x = 0 → axX G f mc ms Q tgt L st T N I R z k n) (kf : ¬ x = 0 → axX G f mc ms Q (pc + 3) L st T N I R z k n) : axX G f mc ms Q pc L (vI x :: st) T N I R z k n :=
  fun H locs ls hH hl hL hk hn => lv_if_eq hC.1 hC.2.1 hd ht (fun h => kt ((ax_eq hx ax_r0).mp h) H locs ls hH hl hL hk hn) (fun h => kf (fun q => h ((ax_eq hx ax_r0).mpr q)) H locs ls hH hl hL hk hn)
theorem x_if_ne (hC : axC G f Y own d mc ms) {off : Int} (tgt : Nat) {x : Int} (hd : decode Y.2.1 pc = .ok (.ifCond .ne off, 3)) (ht : (pc : Int) + off = (tgt : Int)) (hx : ax_r x) (kt : ¬ x = 0 → axX G f mc ms Q tgt L st T N I R z k n) (kf : x = 0 → axX G f mc ms Q (pc + 3) L st T N I R z k n) : axX G f mc ms Q pc L (vI x :: st) T N I R z k n :=
  fun H locs ls hH hl hL hk hn => lv_if_ne hC.1 hC.2.1 hd ht (fun h => kt (fun q => h ((ax_eq hx ax_r0).mpr q)) H locs ls hH hl hL hk hn) (fun h => kf ((ax_eq hx ax_r0).mp h) H locs ls hH hl hL hk hn)
theorem x_ifB_eq (hC : axC G f Y own d mc ms) {off : Int} (tgt : Nat) {P : Prop} [Decidable P] (hd : decode Y.2.1 pc = .ok (.ifCond .eq off, 3)) (ht : (pc : Int) + off = (tgt : Int)) (kt : ¬ P → axX G f mc ms Q tgt L st T N I R z k n) (kf : P → axX G f mc ms Q (pc + 3) L st T N I R z k n) : axX G f mc ms Q pc L (vI (bI P) :: st) T N I R z k n :=
  x_if_eq hC tgt hd ht (bI_r P) (fun h => kt (bI_0.mp h)) (fun h => kf (bI_1.mp h))
theorem x_ifB_ne (hC : axC G f Y own d mc ms) {off : Int} (tgt : Nat) {P : Prop} [Decidable P] (hd : decode Y.2.1 pc = .ok (.ifCond .ne off, 3)) (ht : (pc : Int) + off = (tgt : Int)) (kt : P → axX G f mc ms Q tgt L st T N I R z k n) (kf : ¬ P → axX G f mc ms Q (pc + 3) L st T N I R z k n) : axX G f mc ms Q pc L (vI (bI P) :: st) T N I R z k n :=
  x_if_ne hC tgt hd ht (bI_r P) (fun h => kt (bI_1.mp h)) (fun h => kf (bI_0.mp h))
theorem x_if_lt (hC : axC G f Y own d mc ms) {off : Int} (tgt : Nat) {x : Int} (hd : decode Y.2.1 pc = .ok (.ifCond .lt off, 3)) (ht : (pc : Int) + off = (tgt : Int)) (hx : ax_r x) (kt : x < 0 → axX G f mc ms Q tgt L st T N I R z k n) (kf : ¬ x < 0 → axX G f mc ms Q (pc + 3) L st T N I R z k n) : axX G f mc ms Q pc L (vI x :: st) T N I R z k n :=
  fun H locs ls hH hl hL hk hn => lv_if_lt hC.1 hC.2.1 hd ht (fun h => kt ((ax_lt hx ax_r0).mp h) H locs ls hH hl hL hk hn) (fun h => kf (fun q => h ((ax_lt hx ax_r0).mpr q)) H locs ls hH hl hL hk hn)
theorem x_if_ge (hC : axC G f Y own d mc ms) {off : Int} (tgt : Nat) {x : Int} (hd : decode Y.2.1 pc = .ok (.ifCond .ge off, 3)) (ht : (pc : Int) + off = (tgt : Int)) (hx : ax_r x) (kt : 0 ≤ x → axX G f mc ms Q tgt L st T N I R z k n) (kf : ¬ 0 ≤ x → axX G f mc ms Q (pc + 3) L st T N I R z k n) : axX G f mc ms Q pc L (vI x :: st) T N I R z k n :=
  fun H locs ls hH hl hL hk hn => lv_if_ge hC.1 hC.2.1 hd ht (fun h => kt ((ax_le ax_r0 hx).mp h) H locs ls hH hl hL hk hn) (fun h => kf (fun q => h ((ax_le ax_r0 hx).mpr q)) H locs ls hH hl hL hk hn)
theorem x_if_gt (hC : axC G f Y own d mc ms) {off : Int} (tgt : Nat) {x : Int} (hd : decode Y.2.1 pc = .ok (.ifCond .gt off, 3)) (ht : (pc : Int) + off = (tgt : Int)) (hx : ax_r x) (kt : 0 < x → axX G f mc ms Q tgt L st T N I R z k n) (kf : ¬ 0 < x → axX G f mc ms Q (pc + 3) L st T N I R z k n) : axX G f mc ms Q pc L (vI x :: st) T N I R z k n :=
  fun H locs ls hH hl hL hk hn => lv_if_gt hC.1 hC.2.1 hd ht (fun h => kt ((ax_lt ax_r0 hx).mp h) H locs ls hH hl hL hk hn) (fun h => kf (fun q => h ((ax_lt ax_r0 hx).mpr q)) H locs ls hH hl hL hk hn)
theorem x_if_le (hC : axC G f Y own d mc ms) {off : Int} (tgt : Nat) {x : Int} (hd : decode Y.2.1 pc = .ok (.ifCond .le off, 3)) (ht : (pc : Int) + off = (tgt : Int)) (hx : ax_r x) (kt : x ≤ 0 → axX G f mc ms Q tgt L st T N I R z k n) (kf : ¬ x ≤ 0 → axX G f mc ms Q (pc + 3) L st T N I R z k n) : axX G f mc ms Q pc L (vI x :: st) T N I R z k n :=
  fun H locs ls hH hl hL hk hn => lv_if_le hC.1 hC.2.1 hd ht (fun h => kt ((ax_le hx ax_r0).mp h) H locs ls hH hl hL hk hn) (fun h => kf (fun q => h ((ax_le hx ax_r0).mpr q)) H locs ls hH hl hL hk hn)
theorem x_ifnull (hC : axC G f Y own d mc ms) {off : Int} (tgt : Nat) {r : Option Nat} (hd : decode Y.2.1 pc = .ok (.ifnull off, 3)) (ht : (pc : Int) + off = (tgt : Int)) (kt : r = none → axX G f mc ms Q tgt L st T N I R z k n) (kf : ∀ a, r = some a → axX G f mc ms Q (pc + 3) L st T N I R z k n) : axX G f mc ms Q pc L (vO r :: st) T N I R z k n := by
  intro H locs ls hH hl hL hk hn
  cases r with
  | none => exact lv_ifnullN hC.1 hC.2.1 hd ht (kt rfl H locs ls hH hl hL hk hn)
  | some a => exact lv_ifnull hC.1 hC.2.1 hd (kf a rfl H locs ls hH hl hL hk hn)
theorem x_ifnonnull (hC : axC G f Y own d mc ms) {off : Int} (tgt : Nat) {r : Option Nat} (hd : decode Y.2.1 pc = .ok (.ifnonnull off, 3)) (ht : (pc : Int) + off = (tgt : Int)) (kt : ∀ a, r = some a → axX G f mc ms Q tgt L st T N I R z k n) (kf : r = none → axX G f mc ms Q (pc + 3) L st T N I R z k n) : axX G f mc ms Q pc L (vO r :: st) T N I R z k n := by
  intro H locs ls hH hl hL hk hn
  cases r with
  | none => exact lv_ifnonnullN hC.1 hC.2.1 hd (kf rfl H locs ls hH hl hL hk hn)
  | some a => exact lv_ifnonnull hC.1 hC.2.1 hd ht (kt a rfl H locs ls hH hl hL hk hn)
theorem x_acmp_eq (hC : axC G f Y own d mc ms) {off : Int} (tgt : Nat) {x y : Option Nat} (hd : decode Y.2.1 pc = .ok (.if_acmp .eq off, 3)) (ht : (pc : Int) + off = (tgt : Int)) (kt : x = y → axX G f mc ms Q tgt L st T N I R z k n) (kf : ¬ x = y → axX G f mc ms Q (pc + 3) L st T N I R z k n) : axX G f mc ms Q pc L (vO y :: vO x :: st) T N I R z k n :=
  fun H locs ls hH hl hL hk hn => lv_acmp_eq hC.1 hC.2.1 hd ht (fun h => kt h H locs ls hH hl hL hk hn) (fun h => kf h H locs ls hH hl hL hk hn)
theorem x_acmp_ne (hC : axC G f Y own d mc ms) {off : Int} (tgt : Nat) {x y : Option Nat} (hd : decode Y.2.1 pc = .ok (.if_acmp .ne off, 3)) (ht : (pc : Int) + off = (tgt : Int)) (kt : ¬ x = y → axX G f mc ms Q tgt L st T N I R z k n) (kf : x = y → axX G f mc ms Q (pc + 3) L st T N I R z k n) : axX G f mc ms Q pc L (vO y :: vO x :: st) T N I R z k n :=
  fun H locs ls hH hl hL hk hn => lv_acmp_ne hC.1 hC.2.1 hd ht (fun h => kt h H locs ls hH hl hL hk hn) (fun h => kf h H locs ls hH hl hL hk hn)
theorem x_tswOut (hC : axC G f Y own d mc ms) {dflt lo hi : Int} {offs : Array Int} {len : Nat} (tgt : Nat) {x : Int} (hd : decode Y.2.1 pc = .ok (.tableswitch dflt lo hi offs, len)) (ht : (pc : Int) + dflt = (tgt : Int)) (hx : ax_r x) (h : x < lo ∨ hi < x) (kk : axX G f mc ms Q tgt L st T N I R z k n) : axX G f mc ms Q pc L (vI x :: st) T N I R z k n :=
  axX.go (fun H locs ls cells slots Q0 hL k => lv_tableOut hC.1 hC.2.1 hd (by rw [ax_toInt hx]; exact h) ht (k ls hL)) kk
theorem x_tswIn (hC : axC G f Y own d mc ms) {dflt lo hi : Int} {offs : Array Int} {len : Nat} (tgt : Nat) {x off : Int} (hd : decode Y.2.1 pc = .ok (.tableswitch dflt lo hi offs, len)) (hx : ax_r x) (h1 : ¬ x < lo) (h2 : ¬ hi < x) (ho : offs[(x - lo).toNat]? = some off) (ht : (pc : Int) + off = (tgt : Int)) (kk : axX G f mc ms Q tgt L st T N I R z k n) : axX G f mc ms Q pc L (vI x :: st) T N I R z k n :=
  axX.go (fun H locs ls cells slots Q0 hL k => lv_tableIn hC.1 hC.2.1 hd (by rw [ax_toInt hx]; exact h1) (by rw [ax_toInt hx]; exact h2) (by rw [ax_toInt hx]; exact ho) ht (k ls hL)) kk
theorem x_iret (hC : axC G f Y own d mc ms) {x : Int} (hY : Y.2.2.2 = some .int) (hd : decode Y.2.1 pc = .ok (.ireturn, 1)) (hq : Q (some (vI x)) T N I R z) : axX G f mc ms Q pc L [vI x] T N I R z k n := by
  intro H locs ls hH hl hL hk hn
  refine W.widen (k := mc) (n := ms) (Nat.sub_le _ _) (Nat.sub_le _ _) ?_
  exact W.iret (v := Int32.ofInt x) hC.1 hC.2.1 (hC.2.2.2.1.trans hY) (fun t ht _ => ⟨some (vI x), T, N, I, R, z, rfl, hq, by rw [ht]; exact hH⟩) hl hd hC.2.2.2.2.1
theorem x_zret (hC : axC G f Y own d mc ms) {x : Int} (hY : Y.2.2.2 = some .boolean) (hd : decode Y.2.1 pc = .ok (.ireturn, 1)) (hx : x = 0 ∨ x = 1) (hq : Q (some (vI x)) T N I R z) : axX G f mc ms Q pc L [vI x] T N I R z k n := by
  intro H locs ls hH hl hL hk hn
  refine W.widen (k := mc) (n := ms) (Nat.sub_le _ _) (Nat.sub_le _ _) ?_
  refine W.zret (v := Int32.ofInt x) (ty := .boolean) hC.1 hC.2.1 (hC.2.2.2.1.trans hY) ?_ (fun t ht _ => ⟨some (vI x), T, N, I, R, z, rfl, hq, by rw [ht]; exact hH⟩) hl hd hC.2.2.2.2.1
  rcases hx with rfl | rfl <;> rfl
theorem x_zretB (hC : axC G f Y own d mc ms) {P : Prop} [Decidable P] (hY : Y.2.2.2 = some .boolean) (hd : decode Y.2.1 pc = .ok (.ireturn, 1)) (hq : Q (some (vI (bI P))) T N I R z) : axX G f mc ms Q pc L [vI (bI P)] T N I R z k n := x_zret hC hY hd (bI_01 P) hq
theorem x_lret (hC : axC G f Y own d mc ms) {x : Int} (hY : Y.2.2.2 = some .long) (hd : decode Y.2.1 pc = .ok (.lreturn, 1)) (hq : Q (some (vL x)) T N I R z) : axX G f mc ms Q pc L [vL x] T N I R z k n := by
  intro H locs ls hH hl hL hk hn
  refine W.widen (k := mc) (n := ms) (Nat.sub_le _ _) (Nat.sub_le _ _) ?_
  exact W.lret (v := Int64.ofInt x) hC.1 hC.2.1 (hC.2.2.2.1.trans hY) (fun t ht _ => ⟨some (vL x), T, N, I, R, z, rfl, hq, by rw [ht]; exact hH⟩) hl hd hC.2.2.2.2.1
theorem x_aret (hC : axC G f Y own d mc ms) {r : Option Nat} {rt : FieldType} (hY : Y.2.2.2 = some rt) (hrt : (∃ n, rt = .object n) ∨ ∃ t, rt = .array t) (hd : decode Y.2.1 pc = .ok (.areturn, 1)) (hq : Q (some (vO r)) T N I R z) : axX G f mc ms Q pc L [vO r] T N I R z k n := by
  intro H locs ls hH hl hL hk hn
  refine W.widen (k := mc) (n := ms) (Nat.sub_le _ _) (Nat.sub_le _ _) ?_
  refine W.aret (v := va_rf r) (rt := rt) hC.1 hC.2.1 (hC.2.2.2.1.trans hY) hrt ?_ (fun t ht _ => ⟨some (vO r), T, N, I, R, z, rfl, hq, by rw [ht]; exact hH⟩) hl hd hC.2.2.2.2.1
  cases r with
  | none => exact Or.inl rfl
  | some a => exact Or.inr ⟨a, rfl⟩
theorem x_vret (hC : axC G f Y own d mc ms) (hY : Y.2.2.2 = none) (hd : decode Y.2.1 pc = .ok (.return_, 1)) (hq : Q none T N I R z) : axX G f mc ms Q pc L [] T N I R z k n := by
  intro H locs ls hH hl hL hk hn
  refine W.widen (k := mc) (n := ms) (Nat.sub_le _ _) (Nat.sub_le _ _) ?_
  exact W.vret hC.1 hC.2.1 (hC.2.2.2.1.trans hY) (fun t ht _ => ⟨none, T, N, I, R, z, rfl, hq, by rw [ht]; exact hH⟩) hl hd hC.2.2.2.2.1
end AXR
