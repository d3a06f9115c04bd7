/-! THE REFERENCE: settle -/
theorem shStep_nd {s : List Int × List Int} {v : Int} (h : s.2.Nodup) : (shStep s v).2.Nodup := by
  simp only [shStep]
  split
  · exact h
  · rw [List.nodup_append]
    refine ⟨h, by simp, ?_⟩
    intro a ha b hb
    simp at hb
    subst hb
    intro e
    subst e
    contradiction
theorem shFold_nd : ∀ (p : List Int) (s : List Int × List Int), s.2.Nodup → (p.foldl shStep s).2.Nodup := by
  intro p
  induction p with
  | nil => intro s h; exact h
  | cons v p ih => intro s h; exact ih _ (shStep_nd h)
theorem shpSeq_nd (B X Y : List Int) : (shpSeq B X Y).2.Nodup := shFold_nd Y _ (shFold_nd X _ (shFold_nd B _ List.nodup_nil))
theorem cShape_nd (B O Th : List Int) : (cShape B O Th).2.Nodup := by
  unfold cShape
  split
  · exact shpSeq_nd _ _ _
  · exact shpSeq_nd _ _ _
theorem nix_nd {s : List Int} {v : Int} {x : Nat} (h : s.Nodup) (hx : s[x]? = some v) : nix s v = x := by
  refine nix_at x s v (fun y hy hh => ?_) hx
  have h1 : y < s.length := by
    rcases Nat.lt_or_ge y s.length with h | h
    · exact h
    · rw [List.getElem?_eq_none h] at hh; simp at hh
  have h2 : x < s.length := by
    rcases Nat.lt_or_ge x s.length with h | h
    · exact h
    · rw [List.getElem?_eq_none h] at hx; simp at hx
  rw [List.getElem?_eq_getElem h1] at hh
  rw [List.getElem?_eq_getElem h2] at hx
  have e : s[y] = s[x] := by rw [Option.some.inj hh, Option.some.inj hx]
  exact List.pairwise_iff_getElem.mp h y x h1 h2 hy e
/-- a number of a row that settles: by its name, or itself -/
def stv (nm : List Int) (v : Int) : Int := if v ∈ nm then (nix nm v : Int) else v + 100
def stM (I : Nat → Int → Int) (o : Nat) (s : Int) (c : List Int × List Int) : Nat → Int → Int := ax_u (ax_f (ax_u (ax_f (ax_u I (o + 21) (I o 30) (c.1.length : Int)) (o + 20) (51 * I o 30) c.1.length (fun j => lf c.1 (j - 51 * I o 30))) (o + 23) (I o 30) (I (o + 32) s)) (o + 22) (6 * I o 30) (I (o + 32) s) (fun j => lf ((slL I o s).map (stv c.2)) (j - 6 * I o 30))) o 30 (I o 30 + 1)
def stl (I : Nat → Int → Int) (o : Nat) (k s : Int) : Int × (Nat → Int → Int) :=
  if opP I o k ∧ 0 ≤ s ∧ s < 5 then
    if I (o + 31) s ≤ 0 then
      if I (o + 31) s = -9 then (-11, ax_u (ax_u I o 0 0) o 0 1)
      else if alP (slL I o s) 6 then
        if I o 30 = 8 then (-4, ax_u I o 0 0)
        else (I o 30 + 1, stM (ax_u I o 0 0) o s (cShape (cgB I o k) (cgO I o k) (cgT I o k)))
      else (-2, ax_u I o 0 0)
    else (-12, ax_u (ax_u I o 0 0) o 0 2)
  else (-1, ax_u I o 0 0)
theorem rpS_u0 {I : Nat → Int → Int} {o : Nat} {v : Int} (h : rpS I o) : rpS (ax_u I o 0 v) o := by
  unfold rpS rp at *
  rw [axu_j (show (40 : Int) ≠ 0 by decide), axu_j (show (47 : Int) ≠ 0 by decide), axu_j (show (46 : Int) ≠ 0 by decide), axu_j (show (43 : Int) ≠ 0 by decide), axu_j (show (42 : Int) ≠ 0 by decide), axu_j (show (41 : Int) ≠ 0 by decide), axu_j (show (44 : Int) ≠ 0 by decide), axu_j (show (2 : Int) ≠ 0 by decide), axu_row (show o + 28 ≠ o by omega)]
  exact h
theorem miC_u0 {I : Nat → Int → Int} {o : Nat} {v : Int} (h : miC I o) : miC (ax_u I o 0 v) o := miC_eq (axu_j (by decide)) (axu_row (by omega)) (axu_row (by omega)) (axu_row (by omega)) (axu_row (by omega)) (axu_row (by omega)) h
theorem miR_u0 {I : Nat → Int → Int} {o : Nat} {v : Int} (h : miR I o) : miR (ax_u I o 0 v) o := miR_eq (axu_j (by decide)) (axu_row (by omega)) (axu_row (by omega)) (axu_row (by omega)) (axu_row (by omega)) h
theorem goM_u0 {I : Nat → Int → Int} {o : Nat} {v : Int} : goM (ax_u I o 0 v) o = goM I o := by
  have hr : ∀ q, q ≠ o → ax_u I o 0 v q = I q := fun q h => axu_row h
  unfold goM goX
  rw [rsL_eq (axu_j (by decide)) (hr _ (by omega)) (hr _ (by omega)) (hr _ (by omega)) (hr _ (by omega)), rowL_eq (hr _ (by omega)) (hr _ (by omega)), rowL_eq (hr _ (by omega)) (hr _ (by omega)), rowL_eq (hr _ (by omega)) (hr _ (by omega)), axu_j (show (47 : Int) ≠ 0 by decide), axu_j (show (43 : Int) ≠ 0 by decide), hr (o + 28) (by omega), hr (o + 2) (by omega)]
theorem cg_u0 {I : Nat → Int → Int} {o : Nat} {k v : Int} : cgB (ax_u I o 0 v) o k = cgB I o k ∧ cgO (ax_u I o 0 v) o k = cgO I o k ∧ cgT (ax_u I o 0 v) o k = cgT I o k := by
  have hr : ∀ q, q ≠ o → ax_u I o 0 v q = I q := fun q h => axu_row h
  unfold cgB cgO cgT cgG goX
  rw [goM_u0, rwI_eq (hr _ (by omega)), rwI_eq (hr _ (by omega)), rwI_eq (hr _ (by omega)), axu_j (show (47 : Int) ≠ 0 by decide), axu_j (show (43 : Int) ≠ 0 by decide), hr (o + 28) (by omega), hr (o + 2) (by omega)]
  exact ⟨rfl, rfl, rfl⟩
theorem scr.miSe {I J : Nat → Int → Int} {o : Nat} (h : scr I J o) (hm : miS I o) : miS J o := by
  unfold miS at *
  rw [h.1 (o + 31) (by omega) (by omega), h.1 (o + 32) (by omega) (by omega), h.1 (o + 33) (by omega) (by omega), h.1 (o + 34) (by omega) (by omega), h.1 (o + 35) (by omega) (by omega), h.1 (o + 36) (by omega) (by omega), h.1 (o + 4) (by omega) (by omega), h.2 3 (by unfold sfd; omega)]
  exact hm
theorem scr.slLe {I J : Nat → Int → Int} {o : Nat} (h : scr I J o) (s : Int) : slL J o s = slL I o s := by
  unfold slL
  rw [h.1 (o + 32) (by omega) (by omega), h.1 (o + 33) (by omega) (by omega)]
theorem scr.stMe {I J : Nat → Int → Int} {o : Nat} (h : scr I J o) (s : Int) (c : List Int × List Int) : scr (stM I o s c) (stM J o s c) o := by
  unfold stM
  rw [h.2 30 (by unfold sfd; omega), h.1 (o + 32) (by omega) (by omega), h.slLe]
  exact ((h.u.f (fun _ _ _ => rfl)).u.f (fun _ _ _ => rfl)).u

set_option maxHeartbeats 4000000 in
set_option maxRecDepth 100000 in
theorem m_settle0 {G : ax_G} {T : Nat → Nat} {N : Nat → Int} {I : Nat → Int → Int} {R : Nat → Int → Option Nat} {z o : Nat} {J : Nat → Int → Int} {f : ax_F} {d mc ms : Nat} (hC : axC G f YX12_settle YX12_settle.1.cls d mc ms) (M : axMo T N R o) {k s x : Int} {c : List Int × List Int} (hS : miS J o) (hs : 0 ≤ s ∧ s < 5) (hr : 0 ≤ J o 30 ∧ J o 30 < 8) (h6 : J (o + 32) s ≤ 6) (hln : lnB (slL J o s)) (hfi : J o 29 = 0 ∨ J o 29 = 1) (hsh : shM J o (J o 29) c) (h28 : J o 28 = c.1.length) (hc1 : c.1.length ≤ 51) (hc2 : c.2.length ≤ 48) (hnd : c.2.Nodup) (hcl : isLn c.2) {Q : ax_P} (hQ : Q (some (vI (J o 30 + 1))) T N (stM J o s c) R z) : axX G f mc ms Q 108 [vR o, vI k, vI s, vI x, vU, vU, vU, vU] [] T N J R z 0 0 := by

  have hz := hS.2.1 s
  have shv : ∀ i : Int, 0 ≤ i → i < c.1.length → J (o + 17) (51 * J o 29 + i) = lf c.1 i := fun i h0 h1 => by
    have := seg_at (f := J (o + 17)) (i := 51 * J o 29) (j := 51 * J o 29 + c.1.length) (k := i) h0 (by omega)
    rw [hsh.1] at this
    exact this.symm
  have nmv : ∀ i : Int, 0 ≤ i → i < c.2.length → c.2[i.toNat]? = some (J (o + 18) (48 * J o 29 + i)) := fun i h0 h1 => by
    have := seg_get (f := J (o + 18)) (i := 48 * J o 29) (j := 48 * J o 29 + c.2.length) (k := i.toNat) (by omega)
    rw [hsh.2.2] at this
    rw [this, show ((i.toNat : Nat) : Int) = i by omega]
  have nm19 : J (o + 19) (J o 29) = c.2.length := hsh.2.1
  have slv : ∀ i : Int, 0 ≤ i → i < J (o + 32) s → lf (slL J o s) i = J (o + 33) (24 * s + i) := fun i h0 h1 => by
    unfold lf slL
    exact seg_at h0 (by omega)
  have slen : ((slL J o s).length : Int) = J (o + 32) s := by unfold slL; rw [seg_len]; omega
  have dO : ∀ x k, k ≠ 30 → (ax_f (ax_u (ax_f (ax_u J (o + 21) (J o 30) (c.1.length : Int)) (o + 20) (51 * J o 30) c.1.length (fun j => lf c.1 (j - 51 * J o 30))) (o + 23) (J o 30) (J (o + 32) s)) (o + 22) (6 * J o 30) x (fun j => lf ((slL J o s).map (stv c.2)) (j - 6 * J o 30))) o k = J o k := fun x k hk => by rw [axf_a (by omega), axu_a (by omega), axf_a (by omega), axu_a (by omega)]
  have d30 : ∀ x, (ax_f (ax_u (ax_f (ax_u J (o + 21) (J o 30) (c.1.length : Int)) (o + 20) (51 * J o 30) c.1.length (fun j => lf c.1 (j - 51 * J o 30))) (o + 23) (J o 30) (J (o + 32) s)) (o + 22) (6 * J o 30) x (fun j => lf ((slL J o s).map (stv c.2)) (j - 6 * J o 30))) o 30 = J o 30 := fun x => by rw [axf_a (by omega), axu_a (by omega), axf_a (by omega), axu_a (by omega)]
  have dR : ∀ x q, q ≠ o + 20 → q ≠ o + 21 → q ≠ o + 22 → q ≠ o + 23 → (ax_f (ax_u (ax_f (ax_u J (o + 21) (J o 30) (c.1.length : Int)) (o + 20) (51 * J o 30) c.1.length (fun j => lf c.1 (j - 51 * J o 30))) (o + 23) (J o 30) (J (o + 32) s)) (o + 22) (6 * J o 30) x (fun j => lf ((slL J o s).map (stv c.2)) (j - 6 * J o 30))) q = J q := fun x q h1 h2 h3 h4 => by rw [axf_row h3, axu_row h4, axf_row h1, axu_row h2]
  have outer : ∀ (n : Nat) (y : Int) (c5 c6 c7 : ax_V), (J (o + 32) s - y).toNat ≤ n → 0 ≤ y → y ≤ J (o + 32) s → axX G f mc ms Q 187 [vR o, vI k, vI s, vI x, vI y, c5, c6, c7] [] T N (ax_f (ax_u (ax_f (ax_u J (o + 21) (J o 30) (c.1.length : Int)) (o + 20) (51 * J o 30) c.1.length (fun j => lf c.1 (j - 51 * J o 30))) (o + 23) (J o 30) (J (o + 32) s)) (o + 22) (6 * J o 30) y (fun j => lf ((slL J o s).map (stv c.2)) (j - 6 * J o 30))) R z 0 0 := by
    intro n
    induction n with
    | zero =>
      intro y c5 c6 c7 hn h0 h1
      have d32 := dR y (o + 32) (by omega) (by omega) (by omega) (by omega)
      refine x_iload (pc := 187) hC dX12_settle_187 rfl ?_
      refine x_aload_n (pc := 189) hC dX12_settle_189 rfl ?_
      refine x_getO (pc := 190) hC gf_X12_103 dX12_settle_190 M.1 (mo_slotSize M).1 ?_
      refine x_iload_n (pc := 193) hC dX12_settle_193 rfl ?_
      refine x_iald (pc := 194) hC dX12_settle_194 (mo_slotSize M).2.1 (by omega) (by rw [(mo_slotSize M).2.2]; omega) ?_
      rw [d32]
      refine x_icmp_ge (pc := 195) hC 294 dX12_settle_195 (by decide) (by omega) (by omega) (fun b195 => ?_) (fun b195 => ?_)
      · refine x_aload_n (pc := 294) hC dX12_settle_294 rfl ?_
        refine x_dup (pc := 295) hC dX12_settle_295 rfl ?_
        refine x_getI (pc := 296) hC gf_X12_219 dX12_settle_296 M.1 ?_
        rw [d30]
        refine x_iconst (pc := 299) hC dX12_settle_299 ?_
        refine x_iadd (pc := 300) hC dX12_settle_300 ?_
        refine x_putI (pc := 301) hC pf_X12_219 dX12_settle_301 M.1 (by decide) ?_
        refine x_aload_n (pc := 304) hC dX12_settle_304 rfl ?_
        refine x_getI (pc := 305) hC gf_X12_219 dX12_settle_305 M.1 ?_
        rw [axu_s]
        refine x_iret (pc := 308) hC rfl dX12_settle_308 ?_
        have hy : y = J (o + 32) s := by omega
        subst hy
        exact hQ
      · omega
    | succ n ih =>
      intro y c5 c6 c7 hn h0 h1
      have d32 := dR y (o + 32) (by omega) (by omega) (by omega) (by omega)
      have d33 := dR y (o + 33) (by omega) (by omega) (by omega) (by omega)
      have d18 := dR y (o + 18) (by omega) (by omega) (by omega) (by omega)
      have d19 := dR y (o + 19) (by omega) (by omega) (by omega) (by omega)
      have d29 := dO y 29 (by decide)
      have inner : y < J (o + 32) s → ∀ (n : Nat) (w m : Int), (c.2.length - w).toNat ≤ n → 0 ≤ w → w ≤ c.2.length → ((m = J (o + 33) (24 * s + y) + 100 ∧ ∀ i : Int, 0 ≤ i → i < w → J (o + 18) (48 * J o 29 + i) ≠ J (o + 33) (24 * s + y)) ∨ (0 ≤ m ∧ m < w ∧ J (o + 18) (48 * J o 29 + m) = J (o + 33) (24 * s + y))) → axX G f mc ms Q 222 [vR o, vI k, vI s, vI x, vI y, vI (J (o + 33) (24 * s + y)), vI m, vI w] [] T N (ax_f (ax_u (ax_f (ax_u J (o + 21) (J o 30) (c.1.length : Int)) (o + 20) (51 * J o 30) c.1.length (fun j => lf c.1 (j - 51 * J o 30))) (o + 23) (J o 30) (J (o + 32) s)) (o + 22) (6 * J o 30) y (fun j => lf ((slL J o s).map (stv c.2)) (j - 6 * J o 30))) R z 0 0 := by
        intro hy n
        have vr : 0 ≤ J (o + 33) (24 * s + y) ∧ J (o + 33) (24 * s + y) < 100 := hln _ (by unfold slL; rw [seg_mem]; exact ⟨24 * s + y, by omega, by omega, rfl⟩)
        induction n with
        | zero =>
          intro w m hn h2 h3 hI
          have hw : w = c.2.length := by omega
          refine x_iload (pc := 222) hC dX12_settle_222 rfl ?_
          refine x_aload_n (pc := 224) hC dX12_settle_224 rfl ?_
          refine x_getO (pc := 225) hC gf_X12_64 dX12_settle_225 M.1 (mo_names M).1 ?_
          refine x_aload_n (pc := 228) hC dX12_settle_228 rfl ?_
          refine x_getI (pc := 229) hC gf_X12_233 dX12_settle_229 M.1 ?_
          rw [d29]
          refine x_iald (pc := 232) hC dX12_settle_232 (mo_names M).2.1 (by omega) (by rw [(mo_names M).2.2]; omega) ?_
          rw [d19, nm19]
          refine x_icmp_ge (pc := 233) hC 271 dX12_settle_233 (by decide) (by omega) (by omega) (fun b233 => ?_) (fun b233 => ?_)
          · have hw : w = c.2.length := by omega
            have hvl : m = lf ((slL J o s).map (stv c.2)) y := by
              have e1 : lf ((slL J o s).map (stv c.2)) y = stv c.2 (J (o + 33) (24 * s + y)) := by
                rw [← slv y h0 hy]
                unfold lf
                rw [List.getD_eq_getElem?_getD, List.getD_eq_getElem?_getD, List.getElem?_map, List.getElem?_eq_getElem (by omega)]
                rfl
              rw [e1]
              unfold stv
              rcases hI with ⟨hm, hno⟩ | ⟨m0, m1, hm⟩
              · rw [if_neg, hm]
                intro hmem
                obtain ⟨i, hi⟩ := List.mem_iff_getElem?.mp hmem
                have hil : i < c.2.length := by
                  rcases Nat.lt_or_ge i c.2.length with h | h
                  · exact h
                  · rw [List.getElem?_eq_none h] at hi; simp at hi
                have h9 := nmv i (by omega) (by omega)
                rw [Int.toNat_natCast, hi] at h9
                exact hno i (by omega) (by omega) (Option.some.inj h9).symm
              · have h9 := nmv m m0 (by omega)
                rw [hm] at h9
                rw [if_pos (List.mem_of_getElem? h9), nix_nd hnd h9]
                omega
            refine x_aload_n (pc := 271) hC dX12_settle_271 rfl ?_
            refine x_getO (pc := 272) hC gf_X12_73 dX12_settle_272 M.1 (mo_rowOf M).1 ?_
            refine x_bipush (pc := 275) hC dX12_settle_275 (by decide) ?_
            refine x_aload_n (pc := 277) hC dX12_settle_277 rfl ?_
            refine x_getI (pc := 278) hC gf_X12_219 dX12_settle_278 M.1 ?_
            rw [d30]
            refine x_imul (pc := 281) hC dX12_settle_281 ?_
            refine x_iload (pc := 282) hC dX12_settle_282 rfl ?_
            refine x_iadd (pc := 284) hC dX12_settle_284 ?_
            refine x_iload (pc := 285) hC dX12_settle_285 rfl ?_
            refine x_iast (pc := 287) hC dX12_settle_287 (mo_rowOf M).2.1 (by omega) (by rw [(mo_rowOf M).2.2]; omega) ?_
            refine x_iinc (pc := 288) hC dX12_settle_288 rfl ?_
            dsimp only [List.set]
            refine x_goto (pc := 291) hC 187 dX12_settle_291 (by decide) ?_
            rw [axf_step h0 rfl (by rw [hvl]; congr 1; omega)]
            exact ih (y + 1) _ _ _ (by omega) (by omega) (by omega)
          · omega
        | succ n ih2 =>
          intro w m hn h2 h3 hI
          refine x_iload (pc := 222) hC dX12_settle_222 rfl ?_
          refine x_aload_n (pc := 224) hC dX12_settle_224 rfl ?_
          refine x_getO (pc := 225) hC gf_X12_64 dX12_settle_225 M.1 (mo_names M).1 ?_
          refine x_aload_n (pc := 228) hC dX12_settle_228 rfl ?_
          refine x_getI (pc := 229) hC gf_X12_233 dX12_settle_229 M.1 ?_
          rw [d29]
          refine x_iald (pc := 232) hC dX12_settle_232 (mo_names M).2.1 (by omega) (by rw [(mo_names M).2.2]; omega) ?_
          rw [d19, nm19]
          refine x_icmp_ge (pc := 233) hC 271 dX12_settle_233 (by decide) (by omega) (by omega) (fun b233 => ?_) (fun b233 => ?_)
          · have hw : w = c.2.length := by omega
            have hvl : m = lf ((slL J o s).map (stv c.2)) y := by
              have e1 : lf ((slL J o s).map (stv c.2)) y = stv c.2 (J (o + 33) (24 * s + y)) := by
                rw [← slv y h0 hy]
                unfold lf
                rw [List.getD_eq_getElem?_getD, List.getD_eq_getElem?_getD, List.getElem?_map, List.getElem?_eq_getElem (by omega)]
                rfl
              rw [e1]
              unfold stv
              rcases hI with ⟨hm, hno⟩ | ⟨m0, m1, hm⟩
              · rw [if_neg, hm]
                intro hmem
                obtain ⟨i, hi⟩ := List.mem_iff_getElem?.mp hmem
                have hil : i < c.2.length := by
                  rcases Nat.lt_or_ge i c.2.length with h | h
                  · exact h
                  · rw [List.getElem?_eq_none h] at hi; simp at hi
                have h9 := nmv i (by omega) (by omega)
                rw [Int.toNat_natCast, hi] at h9
                exact hno i (by omega) (by omega) (Option.some.inj h9).symm
              · have h9 := nmv m m0 (by omega)
                rw [hm] at h9
                rw [if_pos (List.mem_of_getElem? h9), nix_nd hnd h9]
                omega
            refine x_aload_n (pc := 271) hC dX12_settle_271 rfl ?_
            refine x_getO (pc := 272) hC gf_X12_73 dX12_settle_272 M.1 (mo_rowOf M).1 ?_
            refine x_bipush (pc := 275) hC dX12_settle_275 (by decide) ?_
            refine x_aload_n (pc := 277) hC dX12_settle_277 rfl ?_
            refine x_getI (pc := 278) hC gf_X12_219 dX12_settle_278 M.1 ?_
            rw [d30]
            refine x_imul (pc := 281) hC dX12_settle_281 ?_
            refine x_iload (pc := 282) hC dX12_settle_282 rfl ?_
            refine x_iadd (pc := 284) hC dX12_settle_284 ?_
            refine x_iload (pc := 285) hC dX12_settle_285 rfl ?_
            refine x_iast (pc := 287) hC dX12_settle_287 (mo_rowOf M).2.1 (by omega) (by rw [(mo_rowOf M).2.2]; omega) ?_
            refine x_iinc (pc := 288) hC dX12_settle_288 rfl ?_
            dsimp only [List.set]
            refine x_goto (pc := 291) hC 187 dX12_settle_291 (by decide) ?_
            rw [axf_step h0 rfl (by rw [hvl]; congr 1; omega)]
            exact ih (y + 1) _ _ _ (by omega) (by omega) (by omega)
          · refine x_aload_n (pc := 236) hC dX12_settle_236 rfl ?_
            refine x_getO (pc := 237) hC gf_X12_61 dX12_settle_237 M.1 (mo_named M).1 ?_
            refine x_bipush (pc := 240) hC dX12_settle_240 (by decide) ?_
            refine x_aload_n (pc := 242) hC dX12_settle_242 rfl ?_
            refine x_getI (pc := 243) hC gf_X12_233 dX12_settle_243 M.1 ?_
            rw [d29]
            refine x_imul (pc := 246) hC dX12_settle_246 ?_
            refine x_iload (pc := 247) hC dX12_settle_247 rfl ?_
            refine x_iadd (pc := 249) hC dX12_settle_249 ?_
            refine x_iald (pc := 250) hC dX12_settle_250 (mo_named M).2.1 (by omega) (by rw [(mo_named M).2.2]; omega) ?_
            rw [d18]
            refine x_iload (pc := 251) hC dX12_settle_251 rfl ?_
            have nr : 0 ≤ J (o + 18) (48 * J o 29 + w) ∧ J (o + 18) (48 * J o 29 + w) < 100 := hcl _ (List.mem_of_getElem? (nmv w h2 (by omega)))
            refine x_icmp_ne (pc := 253) hC 261 dX12_settle_253 (by decide) (by omega) (by omega) (fun b253 => ?_) (fun b253 => ?_)
            · refine x_iload (pc := 261) hC dX12_settle_261 rfl ?_
              refine x_istore (pc := 263) hC dX12_settle_263 (Nat.le_of_ble_eq_true rfl) ?_
              dsimp only [List.set]
              refine x_iinc (pc := 265) hC dX12_settle_265 rfl ?_
              dsimp only [List.set]
              refine x_goto (pc := 268) hC 222 dX12_settle_268 (by decide) ?_
              refine ih2 (w + 1) _ (by omega) (by omega) (by omega) ?_
              first
              | (refine Or.inr ⟨h2, by omega, by assumption⟩)
              | (rcases hI with ⟨hm, hno⟩ | ⟨m0, m1, hm⟩
                 · refine Or.inl ⟨hm, fun i a1 a2 => ?_⟩
                   by_cases hiw : i = w
                   · rw [hiw]; assumption
                   · exact hno i a1 (by omega)
                 · exact Or.inr ⟨m0, by omega, hm⟩)
            · refine x_iload (pc := 256) hC dX12_settle_256 rfl ?_
              refine x_goto (pc := 258) hC 263 dX12_settle_258 (by decide) ?_
              refine x_istore (pc := 263) hC dX12_settle_263 (Nat.le_of_ble_eq_true rfl) ?_
              dsimp only [List.set]
              refine x_iinc (pc := 265) hC dX12_settle_265 rfl ?_
              dsimp only [List.set]
              refine x_goto (pc := 268) hC 222 dX12_settle_268 (by decide) ?_
              refine ih2 (w + 1) _ (by omega) (by omega) (by omega) ?_
              first
              | (refine Or.inr ⟨h2, by omega, by assumption⟩)
              | (rcases hI with ⟨hm, hno⟩ | ⟨m0, m1, hm⟩
                 · refine Or.inl ⟨hm, fun i a1 a2 => ?_⟩
                   by_cases hiw : i = w
                   · rw [hiw]; assumption
                   · exact hno i a1 (by omega)
                 · exact Or.inr ⟨m0, by omega, hm⟩)
      refine x_iload (pc := 187) hC dX12_settle_187 rfl ?_
      refine x_aload_n (pc := 189) hC dX12_settle_189 rfl ?_
      refine x_getO (pc := 190) hC gf_X12_103 dX12_settle_190 M.1 (mo_slotSize M).1 ?_
      refine x_iload_n (pc := 193) hC dX12_settle_193 rfl ?_
      refine x_iald (pc := 194) hC dX12_settle_194 (mo_slotSize M).2.1 (by omega) (by rw [(mo_slotSize M).2.2]; omega) ?_
      rw [d32]
      refine x_icmp_ge (pc := 195) hC 294 dX12_settle_195 (by decide) (by omega) (by omega) (fun b195 => ?_) (fun b195 => ?_)
      · refine x_aload_n (pc := 294) hC dX12_settle_294 rfl ?_
        refine x_dup (pc := 295) hC dX12_settle_295 rfl ?_
        refine x_getI (pc := 296) hC gf_X12_219 dX12_settle_296 M.1 ?_
        rw [d30]
        refine x_iconst (pc := 299) hC dX12_settle_299 ?_
        refine x_iadd (pc := 300) hC dX12_settle_300 ?_
        refine x_putI (pc := 301) hC pf_X12_219 dX12_settle_301 M.1 (by decide) ?_
        refine x_aload_n (pc := 304) hC dX12_settle_304 rfl ?_
        refine x_getI (pc := 305) hC gf_X12_219 dX12_settle_305 M.1 ?_
        rw [axu_s]
        refine x_iret (pc := 308) hC rfl dX12_settle_308 ?_
        have hy : y = J (o + 32) s := by omega
        subst hy
        exact hQ
      · refine x_aload_n (pc := 198) hC dX12_settle_198 rfl ?_
        refine x_getO (pc := 199) hC gf_X12_106 dX12_settle_199 M.1 (mo_cells M).1 ?_
        refine x_bipush (pc := 202) hC dX12_settle_202 (by decide) ?_
        refine x_iload_n (pc := 204) hC dX12_settle_204 rfl ?_
        refine x_imul (pc := 205) hC dX12_settle_205 ?_
        refine x_iload (pc := 206) hC dX12_settle_206 rfl ?_
        refine x_iadd (pc := 208) hC dX12_settle_208 ?_
        refine x_iald (pc := 209) hC dX12_settle_209 (mo_cells M).2.1 (by omega) (by rw [(mo_cells M).2.2]; omega) ?_
        rw [d33]
        refine x_istore (pc := 210) hC dX12_settle_210 (Nat.le_of_ble_eq_true rfl) ?_
        dsimp only [List.set]
        refine x_iload (pc := 212) hC dX12_settle_212 rfl ?_
        refine x_bipush (pc := 214) hC dX12_settle_214 (by decide) ?_
        refine x_iadd (pc := 216) hC dX12_settle_216 ?_
        refine x_istore (pc := 217) hC dX12_settle_217 (Nat.le_of_ble_eq_true rfl) ?_
        dsimp only [List.set]
        refine x_iconst (pc := 219) hC dX12_settle_219 ?_
        refine x_istore (pc := 220) hC dX12_settle_220 (Nat.le_of_ble_eq_true rfl) ?_
        dsimp only [List.set]
        exact inner (by omega) _ 0 _ (Nat.le_refl _) (by omega) (by omega) (Or.inl ⟨rfl, fun i a1 a2 => by omega⟩)
  have first : ∀ (n : Nat) (y : Int), (c.1.length - y).toNat ≤ n → 0 ≤ y → y ≤ c.1.length → axX G f mc ms Q 124 [vR o, vI k, vI s, vI x, vI y, vU, vU, vU] [] T N (ax_f (ax_u J (o + 21) (J o 30) (c.1.length : Int)) (o + 20) (51 * J o 30) y (fun j => lf c.1 (j - 51 * J o 30))) R z 0 0 := by
    intro n
    have bO : ∀ x k, (ax_f (ax_u J (o + 21) (J o 30) (c.1.length : Int)) (o + 20) (51 * J o 30) x (fun j => lf c.1 (j - 51 * J o 30))) o k = J o k := fun x k => by rw [axf_a (by omega), axu_a (by omega)]
    have bR : ∀ x q, q ≠ o + 20 → q ≠ o + 21 → (ax_f (ax_u J (o + 21) (J o 30) (c.1.length : Int)) (o + 20) (51 * J o 30) x (fun j => lf c.1 (j - 51 * J o 30))) q = J q := fun x q h1 h2 => by rw [axf_row h1, axu_row h2]
    induction n with
    | zero =>
      intro y hn h0 h1
      have hy : y = c.1.length := by omega
      refine x_iload (pc := 124) hC dX12_settle_124 rfl ?_
      refine x_aload_n (pc := 126) hC dX12_settle_126 rfl ?_
      refine x_getI (pc := 127) hC gf_X12_230 dX12_settle_127 M.1 ?_
      rw [bO, h28]
      refine x_icmp_ge (pc := 130) hC 169 dX12_settle_130 (by decide) (by omega) (by omega) (fun b130 => ?_) (fun b130 => ?_)
      · refine x_aload_n (pc := 169) hC dX12_settle_169 rfl ?_
        refine x_getO (pc := 170) hC gf_X12_76 dX12_settle_170 M.1 (mo_rowSize M).1 ?_
        refine x_aload_n (pc := 173) hC dX12_settle_173 rfl ?_
        refine x_getI (pc := 174) hC gf_X12_219 dX12_settle_174 M.1 ?_
        refine x_aload_n (pc := 177) hC dX12_settle_177 rfl ?_
        refine x_getO (pc := 178) hC gf_X12_103 dX12_settle_178 M.1 (mo_slotSize M).1 ?_
        refine x_iload_n (pc := 181) hC dX12_settle_181 rfl ?_
        refine x_iald (pc := 182) hC dX12_settle_182 (mo_slotSize M).2.1 (by omega) (by rw [(mo_slotSize M).2.2]; omega) ?_
        rw [bO, bR _ _ (by omega) (by omega)]
        refine x_iast (pc := 183) hC dX12_settle_183 (mo_rowSize M).2.1 (by omega) (by rw [(mo_rowSize M).2.2]; omega) ?_
        refine x_iconst (pc := 184) hC dX12_settle_184 ?_
        refine x_istore (pc := 185) hC dX12_settle_185 (Nat.le_of_ble_eq_true rfl) ?_
        dsimp only [List.set]
        have hy : y = c.1.length := by omega
        subst hy
        have := outer _ 0 vU vU vU (Nat.le_refl _) (by omega) (by omega)
        rw [axf_0] at this
        exact this
      · omega
    | succ n ih =>
      intro y hn h0 h1
      refine x_iload (pc := 124) hC dX12_settle_124 rfl ?_
      refine x_aload_n (pc := 126) hC dX12_settle_126 rfl ?_
      refine x_getI (pc := 127) hC gf_X12_230 dX12_settle_127 M.1 ?_
      rw [bO, h28]
      refine x_icmp_ge (pc := 130) hC 169 dX12_settle_130 (by decide) (by omega) (by omega) (fun b130 => ?_) (fun b130 => ?_)
      · refine x_aload_n (pc := 169) hC dX12_settle_169 rfl ?_
        refine x_getO (pc := 170) hC gf_X12_76 dX12_settle_170 M.1 (mo_rowSize M).1 ?_
        refine x_aload_n (pc := 173) hC dX12_settle_173 rfl ?_
        refine x_getI (pc := 174) hC gf_X12_219 dX12_settle_174 M.1 ?_
        refine x_aload_n (pc := 177) hC dX12_settle_177 rfl ?_
        refine x_getO (pc := 178) hC gf_X12_103 dX12_settle_178 M.1 (mo_slotSize M).1 ?_
        refine x_iload_n (pc := 181) hC dX12_settle_181 rfl ?_
        refine x_iald (pc := 182) hC dX12_settle_182 (mo_slotSize M).2.1 (by omega) (by rw [(mo_slotSize M).2.2]; omega) ?_
        rw [bO, bR _ _ (by omega) (by omega)]
        refine x_iast (pc := 183) hC dX12_settle_183 (mo_rowSize M).2.1 (by omega) (by rw [(mo_rowSize M).2.2]; omega) ?_
        refine x_iconst (pc := 184) hC dX12_settle_184 ?_
        refine x_istore (pc := 185) hC dX12_settle_185 (Nat.le_of_ble_eq_true rfl) ?_
        dsimp only [List.set]
        have hy : y = c.1.length := by omega
        subst hy
        have := outer _ 0 vU vU vU (Nat.le_refl _) (by omega) (by omega)
        rw [axf_0] at this
        exact this
      · refine x_aload_n (pc := 133) hC dX12_settle_133 rfl ?_
        refine x_getO (pc := 134) hC gf_X12_67 dX12_settle_134 M.1 (mo_known M).1 ?_
        refine x_bipush (pc := 137) hC dX12_settle_137 (by decide) ?_
        refine x_aload_n (pc := 139) hC dX12_settle_139 rfl ?_
        refine x_getI (pc := 140) hC gf_X12_219 dX12_settle_140 M.1 ?_
        rw [bO]
        refine x_imul (pc := 143) hC dX12_settle_143 ?_
        refine x_iload (pc := 144) hC dX12_settle_144 rfl ?_
        refine x_iadd (pc := 146) hC dX12_settle_146 ?_
        refine x_aload_n (pc := 147) hC dX12_settle_147 rfl ?_
        refine x_getO (pc := 148) hC gf_X12_58 dX12_settle_148 M.1 (mo_shape M).1 ?_
        refine x_bipush (pc := 151) hC dX12_settle_151 (by decide) ?_
        refine x_aload_n (pc := 153) hC dX12_settle_153 rfl ?_
        refine x_getI (pc := 154) hC gf_X12_233 dX12_settle_154 M.1 ?_
        rw [bO]
        refine x_imul (pc := 157) hC dX12_settle_157 ?_
        refine x_iload (pc := 158) hC dX12_settle_158 rfl ?_
        refine x_iadd (pc := 160) hC dX12_settle_160 ?_
        refine x_iald (pc := 161) hC dX12_settle_161 (mo_shape M).2.1 (by omega) (by rw [(mo_shape M).2.2]; omega) ?_
        rw [bR _ _ (by omega) (by omega), shv y h0 (by omega)]
        refine x_iast (pc := 162) hC dX12_settle_162 (mo_known M).2.1 (by omega) (by rw [(mo_known M).2.2]; omega) ?_
        refine x_iinc (pc := 163) hC dX12_settle_163 rfl ?_
        dsimp only [List.set]
        refine x_goto (pc := 166) hC 124 dX12_settle_166 (by decide) ?_
        rw [axf_step h0 rfl (by congr 1; omega)]
        exact ih (y + 1) (by omega) (by omega) (by omega)
  refine x_aload_n (pc := 108) hC dX12_settle_108 rfl ?_
  refine x_getO (pc := 109) hC gf_X12_70 dX12_settle_109 M.1 (mo_knownSize M).1 ?_
  refine x_aload_n (pc := 112) hC dX12_settle_112 rfl ?_
  refine x_getI (pc := 113) hC gf_X12_219 dX12_settle_113 M.1 ?_
  refine x_aload_n (pc := 116) hC dX12_settle_116 rfl ?_
  refine x_getI (pc := 117) hC gf_X12_230 dX12_settle_117 M.1 ?_
  rw [h28]
  refine x_iast (pc := 120) hC dX12_settle_120 (mo_knownSize M).2.1 (by omega) (by rw [(mo_knownSize M).2.2]; omega) ?_
  refine x_iconst (pc := 121) hC dX12_settle_121 ?_
  refine x_istore (pc := 122) hC dX12_settle_122 (Nat.le_of_ble_eq_true rfl) ?_
  dsimp only [List.set]
  have := first _ 0 (Nat.le_refl _) (by omega) (by omega)
  rw [axf_0] at this
  exact this

set_option maxHeartbeats 4000000 in
set_option maxRecDepth 100000 in
theorem m_settle {G : ax_G} {T : Nat → Nat} {N : Nat → Int} {I : Nat → Int → Int} {R : Nat → Int → Option Nat} {z o : Nat} (M : axMo T N R o) {k s : Int} (hm : miC I o) (hR : miR I o) (hS : miS I o) (hs : rpS I o) (hk : ax_r k) (hsr : ax_r s) : axEx G YX12_settle 8 [vR o, vI k, vI s] T N I R z (fun r1 I1 => r1 = some (vI (stl I o k s).1) ∧ scr (stl I o k s).2 I1 o) := by

  refine ax_enter (by decide) (Nat.le_of_ble_eq_true rfl) (ax_cat rfl) (fun f hC => ?_)
  show axX G f 0 0 _ 0 [vR o, vI k, vI s, vU, vU, vU, vU, vU] [] T N I R z 0 0
  obtain ⟨I0, hI0⟩ : ∃ q, q = ax_u I o 0 0 := ⟨_, rfl⟩
  have o40 : I0 o 40 = I o 40 := by rw [hI0]; exact axu_j (by decide)
  have hop0 : bI (opP I0 o k) = bI (opP I o k) := bI_c (by unfold opP; rw [o40, hI0, goM_u0])
  have hm0 : miC I0 o := by rw [hI0]; exact miC_u0 hm
  have hR0 : miR I0 o := by rw [hI0]; exact miR_u0 hR
  have hS0 : miS I0 o := by rw [hI0]; exact miS_u0 hS
  have hS00 := hS0
  have hs0 : rpS I0 o := by rw [hI0]; exact rpS_u0 hs
  have hsl0 : slL I0 o s = slL I o s := by rw [hI0]; exact slL_u0
  have o31 : I0 (o + 31) s = I (o + 31) s := by rw [hI0]; exact axu_a (by omega)
  have o30 : I0 o 30 = I o 30 := by rw [hI0]; exact axu_j (by decide)
  obtain ⟨cB, cO, cT⟩ := cg_u0 (I := I) (o := o) (k := k) (v := 0)
  rw [← hI0] at cB cO cT
  have hso := hS.1 s
  have hz := hS.2.1 s
  have hlen : ((slL I o s).length : Int) = I (o + 32) s := by unfold slL; rw [seg_len]; omega
  have z32 : I0 (o + 32) s = I (o + 32) s := by rw [hI0]; exact axu_a (by omega)
  have hr30 := hR.1
  have fx : I0 o 40 ≠ 0 → (0 < goX I0 o ∧ goX I0 o < 24) ∧ (0 ≤ I0 (o + 2) (goX I0 o) ∧ I0 (o + 2) (goX I0 o) < 24) ∧ (0 ≤ I0 o 43 ∧ I0 o 43 < 24) ∧ (0 ≤ I0 o 47 ∧ I0 o 47 < 24 ∧ I0 o 47 < I0 o 46 ∧ I0 o 46 ≤ 24) := fun h => by
    obtain ⟨⟨r1, r2, r3, r4⟩, r5, -⟩ := hs0.2 h
    have hx : 0 < goX I0 o ∧ goX I0 o < I0 o 2 := r2 (I0 o 47) r1.1 r5
    have hp := hm0.2.2.1.2 (goX I0 o) hx.1 hx.2
    have := hm0.1
    omega
  refine x_aload_n (pc := 0) hC dX12_settle_0 rfl ?_
  refine x_iconst (pc := 1) hC dX12_settle_1 ?_
  refine x_putI (pc := 2) hC pf_X12_122 dX12_settle_2 M.1 (by decide) ?_
  rw [← hI0]
  refine x_aload_n (pc := 5) hC dX12_settle_5 rfl ?_
  refine x_iload_n (pc := 6) hC dX12_settle_6 rfl ?_
  refine x_mVx (pc := 7) hC cv_X12_300 dX12_settle_7 (m_isOpen M hm0 hR0 hs0 hk) M.1 rfl (by decide) rfl rfl (Nat.le_of_ble_eq_true rfl) ?_
  rintro v J ⟨rfl, hJ, hMM⟩
  dsimp only [Option.toList]
  rw [hop0]
  show axX _ _ _ _ _ _ _ (vI _ :: []) _ _ _ _ _ _ _
  refine x_ifB_eq (pc := 10) hC 20 dX12_settle_10 (by decide) (fun b10 => ?_) (fun b10 => ?_)
  · refine x_iconst (pc := 20) hC dX12_settle_20 ?_
    refine x_iret (pc := 21) hC rfl dX12_settle_21 ?_
    refine ⟨⟨?_, ?_⟩, rfl, rfl, rfl, rfl⟩
    · unfold stl; rw [if_neg (fun h => by first | exact absurd h.1 (by assumption) | exact absurd h.2 (by assumption))]; try rfl
    · unfold stl; rw [if_neg (fun h => by first | exact absurd h.1 (by assumption) | exact absurd h.2 (by assumption))]; exact (by rw [← hI0]; exact hJ)
  · refine x_iload_n (pc := 13) hC dX12_settle_13 rfl ?_
    refine x_mS (pc := 14) hC cs_X12_186 dX12_settle_14 (m_isSlot hsr) rfl (by decide) rfl rfl (Nat.le_of_ble_eq_true rfl) ?_
    refine x_ifB_ne (pc := 17) hC 22 dX12_settle_17 (by decide) (fun b17 => ?_) (fun b17 => ?_)
    · have j31 : J (o + 31) s = I (o + 31) s := by rw [hJ.1 (o + 31) (by omega) (by omega)]; exact o31
      have j30 : J o 30 = I o 30 := (hJ.2 30 (by unfold sfd; omega)).trans o30
      have jsl : slL J o s = slL I o s := (hJ.slLe s).trans hsl0
      have jS := hJ.miSe hS0
      refine x_aload_n (pc := 22) hC dX12_settle_22 rfl ?_
      refine x_getO (pc := 23) hC gf_X12_100 dX12_settle_23 M.1 (mo_slotSort M).1 ?_
      refine x_iload_n (pc := 26) hC dX12_settle_26 rfl ?_
      refine x_iald (pc := 27) hC dX12_settle_27 (mo_slotSort M).2.1 (by omega) (by rw [(mo_slotSort M).2.2]; omega) ?_
      rw [j31]
      refine x_if_le (pc := 28) hC 37 dX12_settle_28 (by decide) (by omega) (fun b28 => ?_) (fun b28 => ?_)
      · refine x_aload_n (pc := 37) hC dX12_settle_37 rfl ?_
        refine x_getO (pc := 38) hC gf_X12_100 dX12_settle_38 M.1 (mo_slotSort M).1 ?_
        refine x_iload_n (pc := 41) hC dX12_settle_41 rfl ?_
        refine x_iald (pc := 42) hC dX12_settle_42 (mo_slotSort M).2.1 (by omega) (by rw [(mo_slotSort M).2.2]; omega) ?_
        rw [j31]
        refine x_bipush (pc := 43) hC dX12_settle_43 (by decide) ?_
        refine x_icmp_ne (pc := 45) hC 54 dX12_settle_45 (by decide) (by omega) (by omega) (fun b45 => ?_) (fun b45 => ?_)
        · refine x_aload_n (pc := 54) hC dX12_settle_54 rfl ?_
          refine x_iload_n (pc := 55) hC dX12_settle_55 rfl ?_
          refine x_bipush (pc := 56) hC dX12_settle_56 (by decide) ?_
          refine x_mV (pc := 58) hC cv_X12_195 dX12_settle_58 (m_areLines M jS (by omega) (by decide)) M.1 rfl (by decide) rfl rfl (Nat.le_of_ble_eq_true rfl) ?_
          rw [jsl]
          refine x_ifB_ne (pc := 61) hC 67 dX12_settle_61 (by decide) (fun b61 => ?_) (fun b61 => ?_)
          · refine x_aload_n (pc := 67) hC dX12_settle_67 rfl ?_
            refine x_getI (pc := 68) hC gf_X12_219 dX12_settle_68 M.1 ?_
            refine x_bipush (pc := 71) hC dX12_settle_71 (by decide) ?_
            rw [j30]
            refine x_icmp_ne (pc := 73) hC 79 dX12_settle_73 (by decide) (by omega) (by omega) (fun b73 => ?_) (fun b73 => ?_)
            · have b10' : I0 o 40 ≠ 0 := by rw [o40]; exact b10.1
              have hfx := fx b10'
              obtain ⟨hM, hM7, hM8⟩ := hMM b10'
              have j28 : J (o + 28) = I0 (o + 28) := hJ.1 _ (by omega) (by omega)
              have j47 : J o 47 = I0 o 47 := hJ.2 47 (by unfold sfd; omega)
              have j43 : J o 43 = I0 o 43 := hJ.2 43 (by unfold sfd; omega)
              have jp : J (o + 2) = I0 (o + 2) := hJ.1 _ (by omega) (by omega)
              have hlJ := (hJ.miCe hm0).2.1
              have hkl : 0 ≤ k ∧ k < (goM I0 o).2.2.length := by rw [hI0, goM_u0]; exact b10.2
              have hgk : (goM I0 o).2.2[k.toNat]? = some (cgG I0 o k) := by
                unfold cgG
                rw [List.getD_eq_getElem?_getD, List.getElem?_eq_getElem (by omega)]
                rfl
              have hgo := hM8 _ (List.mem_of_getElem? hgk)
              obtain ⟨⟨o0, o1, o2⟩, ⟨o3, o4, o5⟩, o6, o7, o8⟩ := hgo
              have hgp := hM.2.2.2 _ _ hgk
              rw [show ((k.toNat : Nat) : Int) = k by omega] at hgp
              obtain ⟨e0, e1, e2, e3, e4, e5⟩ := hgp
              have rwJ : ∀ c, rwI J o c = rwI I0 o c := fun c => rwI_eq (hJ.1 _ (by omega) (by omega)) c
              refine x_aload_n (pc := 79) hC dX12_settle_79 rfl ?_
              refine x_getO (pc := 80) hC gf_X12_91 dX12_settle_80 M.1 (mo_todo M).1 ?_
              refine x_aload_n (pc := 83) hC dX12_settle_83 rfl ?_
              refine x_getI (pc := 84) hC gf_X12_271 dX12_settle_84 M.1 ?_
              refine x_iald (pc := 87) hC dX12_settle_87 (mo_todo M).2.1 (by omega) (by rw [(mo_todo M).2.2]; omega) ?_
              rw [j28, j47]
              refine x_istore_n (pc := 88) hC dX12_settle_88 (Nat.le_of_ble_eq_true rfl) ?_
              dsimp only [List.set]
              change axX _ _ _ _ _ _ [vR o, vI k, vI s, vI (goX I0 o), _, _, _, _] _ _ _ _ _ _ _ _
              refine x_aload_n (pc := 89) hC dX12_settle_89 rfl ?_
              refine x_aload_n (pc := 90) hC dX12_settle_90 rfl ?_
              refine x_getO (pc := 91) hC gf_X12_13 dX12_settle_91 M.1 (mo_parent M).1 ?_
              refine x_iload_n (pc := 94) hC dX12_settle_94 rfl ?_
              refine x_iald (pc := 95) hC dX12_settle_95 (mo_parent M).2.1 (by omega) (by rw [(mo_parent M).2.2]; omega) ?_
              refine x_aload_n (pc := 96) hC dX12_settle_96 rfl ?_
              refine x_getI (pc := 97) hC gf_X12_265 dX12_settle_97 M.1 ?_
              refine x_iload_n (pc := 100) hC dX12_settle_100 rfl ?_
              refine x_bipush (pc := 101) hC dX12_settle_101 (by decide) ?_
              refine x_iload_n (pc := 103) hC dX12_settle_103 rfl ?_
              refine x_imul (pc := 104) hC dX12_settle_104 ?_
              rw [jp, j43]
              refine x_mVx (pc := 105) hC cv_X12_239 dX12_settle_105 (m_shapeOf M hlJ (by omega) (by omega) (by omega) (by omega) e0 e1 e2 e3 e4 e5 ⟨o0, o1, o2⟩ ⟨o3, o4, o5⟩ ⟨o6, o7, o8⟩) M.1 rfl (by decide) rfl rfl (Nat.le_of_ble_eq_true rfl) ?_
              rintro v J4 ⟨rfl, hA, hS0, hS1, h28, h29⟩
              dsimp only [Option.toList, List.nil_append]
              rw [rwJ, rwJ, rwJ] at hS0 hS1 h28 h29
              change shM J4 o 0 (shpSeq (cgB I0 o k) (cgO I0 o k) (cgT I0 o k)) at hS0
              change shM J4 o 1 (shpSeq (cgB I0 o k) (cgT I0 o k) (cgO I0 o k)) at hS1
              change J4 o 28 = (shpSeq (cgB I0 o k) (cgO I0 o k) (cgT I0 o k)).1.length at h28
              change J4 o 29 = lxF (shpSeq (cgB I0 o k) (cgO I0 o k) (cgT I0 o k)).1 (shpSeq (cgB I0 o k) (cgT I0 o k) (cgO I0 o k)).1 at h29
              obtain ⟨hfi, hsh, h28'⟩ := sh_pick hS0 hS1 h29 h28
              have hF : scr I0 J4 o := hJ.tr hA.scre
              have hcl := cShape_l (cgB I0 o k) (cgO I0 o k) (cgT I0 o k)
              have lB : ((cgB I0 o k).length : Int) = (cgG I0 o k).2.1 - (cgG I0 o k).1 := by unfold cgB; rw [seg_len]; omega
              have lO : ((cgO I0 o k).length : Int) = (cgG I0 o k).2.2.2.1 - (cgG I0 o k).2.2.1 := by unfold cgO; rw [seg_len]; omega
              have lT : ((cgT I0 o k).length : Int) = (cgG I0 o k).2.2.2.2.2 - (cgG I0 o k).2.2.2.2.1 := by unfold cgT; rw [seg_len]; omega
              have q30 : J4 o 30 = I o 30 := (hF.2 30 (by unfold sfd; omega)).trans o30
              have qsl : slL J4 o s = slL I o s := (hF.slLe s).trans hsl0
              have q32 : J4 (o + 32) s = I (o + 32) s := by rw [hF.1 (o + 32) (by omega) (by omega)]; exact z32
              have hal := b61.1
              have hlnc : isLn (cShape (cgB I0 o k) (cgO I0 o k) (cgT I0 o k)).2 := by
                have l1 : isLn (cgB I0 o k) := seg_isLn (fun j => hm0.2.1.1 _) _ _
                have l2 : isLn (cgO I0 o k) := seg_isLn (fun j => hm0.2.1.1 _) _ _
                have l3 : isLn (cgT I0 o k) := seg_isLn (fun j => hm0.2.1.1 _) _ _
                unfold cShape
                split
                · exact shpSeq_ln l1 l2 l3
                · exact shpSeq_ln l1 l3 l2
              refine m_settle0 (G := G) (I := I) (z := z) (x := goX I0 o) (k := k) hC M (hF.miSe hS00) (by omega) (by rw [q30]; omega) (by rw [q32]; omega) (by rw [qsl]; exact b61.2) hfi hsh h28' (by omega) (by omega) (cShape_nd _ _ _) hlnc ?_
              have hfull : stl I o k s = (I o 30 + 1, stM (ax_u I o 0 0) o s (cShape (cgB I o k) (cgO I o k) (cgT I o k))) := by
                unfold stl
                rw [if_pos ⟨b10, b17⟩, if_pos b28, if_neg b45, if_pos b61, if_neg b73]
              refine ⟨⟨by rw [hfull, q30], ?_⟩, rfl, rfl, rfl, rfl⟩
              rw [hfull, ← hI0, ← cB, ← cO, ← cT]
              exact hF.stMe _ _
            · refine x_bipush (pc := 76) hC dX12_settle_76 (by decide) ?_
              refine x_iret (pc := 78) hC rfl dX12_settle_78 ?_
              refine ⟨⟨?_, ?_⟩, rfl, rfl, rfl, rfl⟩
              · unfold stl; rw [if_pos ⟨b10, b17⟩, if_pos b28, if_neg b45, if_pos b61, if_pos b73]; try rfl
              · unfold stl; rw [if_pos ⟨b10, b17⟩, if_pos b28, if_neg b45, if_pos b61, if_pos b73]; exact (by rw [← hI0]; exact hJ)
          · refine x_bipush (pc := 64) hC dX12_settle_64 (by decide) ?_
            refine x_iret (pc := 66) hC rfl dX12_settle_66 ?_
            refine ⟨⟨?_, ?_⟩, rfl, rfl, rfl, rfl⟩
            · unfold stl; rw [if_pos ⟨b10, b17⟩, if_pos b28, if_neg b45, if_neg b61]; try rfl
            · unfold stl; rw [if_pos ⟨b10, b17⟩, if_pos b28, if_neg b45, if_neg b61]; exact (by rw [← hI0]; exact hJ)
        · refine x_aload_n (pc := 48) hC dX12_settle_48 rfl ?_
          refine x_iconst (pc := 49) hC dX12_settle_49 ?_
          refine x_mV (pc := 50) hC cv_X12_192 dX12_settle_50 (m_fails M) M.1 rfl (by decide) rfl rfl (Nat.le_of_ble_eq_true rfl) ?_
          refine x_iret (pc := 53) hC rfl dX12_settle_53 ?_
          refine ⟨⟨?_, ?_⟩, rfl, rfl, rfl, rfl⟩
          · unfold stl; rw [if_pos ⟨b10, b17⟩, if_pos b28, if_pos b45]; try rfl
          · unfold stl; rw [if_pos ⟨b10, b17⟩, if_pos b28, if_pos b45]; exact (by rw [← hI0]; exact hJ.u)
      · refine x_aload_n (pc := 31) hC dX12_settle_31 rfl ?_
        refine x_iconst (pc := 32) hC dX12_settle_32 ?_
        refine x_mV (pc := 33) hC cv_X12_192 dX12_settle_33 (m_fails M) M.1 rfl (by decide) rfl rfl (Nat.le_of_ble_eq_true rfl) ?_
        refine x_iret (pc := 36) hC rfl dX12_settle_36 ?_
        refine ⟨⟨?_, ?_⟩, rfl, rfl, rfl, rfl⟩
        · unfold stl; rw [if_pos ⟨b10, b17⟩, if_neg (by omega)]; try rfl
        · unfold stl; rw [if_pos ⟨b10, b17⟩, if_neg (by omega)]; exact (by rw [← hI0]; exact hJ.u)
    · refine x_iconst (pc := 20) hC dX12_settle_20 ?_
      refine x_iret (pc := 21) hC rfl dX12_settle_21 ?_
      refine ⟨⟨?_, ?_⟩, rfl, rfl, rfl, rfl⟩
      · unfold stl; rw [if_neg (fun h => by first | exact absurd h.1 (by assumption) | exact absurd h.2 (by assumption))]; try rfl
      · unfold stl; rw [if_neg (fun h => by first | exact absurd h.1 (by assumption) | exact absurd h.2 (by assumption))]; exact (by rw [← hI0]; exact hJ)

