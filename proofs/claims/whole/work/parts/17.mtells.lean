/-! changes told as rows of numbers, and their marks -/
abbrev tApp (J : Nat → Int → Int) (o : Nat) (at_ v : Int) : Nat → Int → Int := ax_u (ax_u J (o + 14) (at_ + J o 19) v) o 19 (ax_u J (o + 14) (at_ + J o 19) v o 19 + 1)
def agT (B J : Nat → Int → Int) (o : Nat) : Prop := (∀ q, q ≠ o → q ≠ o + 14 → J q = B q) ∧ ∀ k, k ≠ 19 → J o k = B o k
def tM (B J : Nat → Int → Int) (o : Nat) (at_ : Int) (L : List Int) : Prop := J o 19 = L.length ∧ seg (J (o + 14)) at_ (at_ + L.length) = L ∧ ∀ j, j < at_ ∨ at_ + 80 ≤ j → J (o + 14) j = B (o + 14) j
theorem agT.app {B J : Nat → Int → Int} {o : Nat} {a v : Int} (h : agT B J o) : agT B (tApp J o a v) o := by
  refine ⟨fun q h1 h2 => ?_, fun k hk => ?_⟩
  · unfold tApp
    rw [axu_row h1, axu_row h2]; exact h.1 q h1 h2
  · unfold tApp
    rw [axu_j hk, axu_a (by omega)]; exact h.2 k hk
theorem tM.app {B J : Nat → Int → Int} {o : Nat} {a v : Int} {L : List Int} (h : tM B J o a L) (hr : (L.length : Int) < 80) : tM B (tApp J o a v) o a (L ++ [v]) := by
  obtain ⟨h1, h2, h3⟩ := h
  have e0 : ax_u J (o + 14) (a + J o 19) v o 19 = J o 19 := axu_a (by omega)
  refine ⟨?_, ?_, fun j hj => ?_⟩
  · unfold tApp
    rw [axu_s, e0, h1]; simp
  · have hl : (((L ++ [v]).length : Nat) : Int) = L.length + 1 := by simp
    rw [hl, ← Int.add_assoc, seg_snoc (by omega)]
    unfold tApp
    rw [axu_row (show o + 14 ≠ o by omega), h1, axu_s]
    congr 1
    exact Eq.trans (seg_congr (fun k _ hk => axu_j (by omega))) h2
  · unfold tApp
    rw [axu_row (show o + 14 ≠ o by omega), h1, axu_j (by omega)]; exact h3 j hj
theorem chFlat_len (a b : Int → Int) : ∀ (l : List (Int × Int × Int × Int)), (∀ q ∈ l, pOk 16 16 q) → ((chFlat (chgL a b l)).length : Int) = ptot l := by
  intro l
  induction l with
  | nil => intro _; rfl
  | cons q l ih =>
    intro h
    have hq := h q List.mem_cons_self
    have := ih (fun r hr => h r (List.mem_cons_of_mem _ hr))
    obtain ⟨q1, q2, q3, q4, q5, q6⟩ := hq
    simp only [chFlat, chgL, ptot, List.map_cons, List.flatMap_cons, List.length_append, List.length_cons, List.sum_cons, seg_len] at this ⊢
    omega
theorem ptot_nn : ∀ (l : List (Int × Int × Int × Int)), (∀ q ∈ l, pOk 16 16 q) → 0 ≤ ptot l := by
  intro l
  induction l with
  | nil => intro _; simp [ptot]
  | cons q l ih =>
    intro h
    obtain ⟨q1, q2, q3, q4, q5, q6⟩ := h q List.mem_cons_self
    have := ih (fun r hr => h r (List.mem_cons_of_mem _ hr))
    simp only [ptot, List.map_cons, List.sum_cons] at this ⊢
    omega
theorem ptot_app (l k : List (Int × Int × Int × Int)) : ptot (l ++ k) = ptot l + ptot k := by simp [ptot]
theorem take_snoc {α : Type} {l : List α} {k : Nat} {q : α} (h : l[k]? = some q) : l.take (k + 1) = l.take k ++ [q] := by rw [List.take_succ, h]; rfl
theorem chFlat_snoc (a b : Int → Int) (l : List (Int × Int × Int × Int)) (q : Int × Int × Int × Int) (hq : pOk 16 16 q) : chFlat (chgL a b (l ++ [q])) = chFlat (chgL a b l) ++ (q.2.1 - q.1) :: seg a q.1 q.2.1 ++ (q.2.2.2 - q.2.2.1) :: seg b q.2.2.1 q.2.2.2 := by
  obtain ⟨q1, q2, q3, q4, q5, q6⟩ := hq
  simp only [chFlat, chgL, List.map_append, List.map_cons, List.map_nil, List.flatMap_append, List.flatMap_cons, List.flatMap_nil, List.append_nil, seg_len]
  have e1 : (((q.2.1 - q.1).toNat : Nat) : Int) = q.2.1 - q.1 := by omega
  have e2 : (((q.2.2.2 - q.2.2.1).toNat : Nat) : Int) = q.2.2.2 - q.2.2.1 := by omega
  rw [e1, e2]
  simp

set_option maxHeartbeats 4000000 in
set_option maxRecDepth 100000 in
theorem m_tells {G : ax_G} {T : Nat → Nat} {N : Nat → Int} {I : Nat → Int → Int} {R : Nat → Int → Option Nat} {z o : Nat} (M : axMo T N R o) {c a_ : Int} (hl : lnOk I o) (hc : 0 ≤ c ∧ c < 24) (hup : c ≠ 0 → 0 ≤ I (o + 2) c ∧ I (o + 2) c < 24) (hat : a_ = 0 ∨ a_ = 80) : axEx G YX12_tells 4 [vR o, vI c, vI a_] T N I R z (fun r1 I1 => r1 = none ∧ (∀ q, q ≠ o → (q < o + 8 ∨ o + 14 < q) → I1 q = I q) ∧ (∀ k, k ≠ 13 → k ≠ 19 → I1 o k = I o k) ∧ (I1 o 13) = (pcsC I o c).length ∧ (I1 o 19) = (chFlat (chgC I o c)).length ∧ seg (I1 (o + 14)) a_ (a_ + (chFlat (chgC I o c)).length) = chFlat (chgC I o c) ∧ (∀ j, j < a_ ∨ a_ + 80 ≤ j → I1 (o + 14) j = I (o + 14) j) ∧ (chFlat (chgC I o c)).length ≤ 66) := by

  refine ax_enter (by decide) (Nat.le_of_ble_eq_true rfl) (ax_cat rfl) (fun f hC => ?_)
  show axX G f 0 0 _ 0 [vR o, vI c, vI a_, vU, vU] [] T N I R z 0 0
  have hpo := pcsC_ok hl c
  obtain ⟨l, hl1⟩ : ∃ l, l = pcsC I o c := ⟨_, rfl⟩
  have hfl := chFlat_len (rwI I o (I (o + 2) c)) (rwI I o c) l (by rw [hl1]; exact hpo.1)
  rw [← hl1] at hpo
  have main : ∀ (B : Nat → Int → Int), frP I B o → (B o 13) = l.length → pcM B o l → ∀ (m : Nat) (k : Nat) (J : Nat → Int → Int) (c4 : ax_V), l.length - k ≤ m → k ≤ l.length → agT B J o → tM B J o a_ (chFlat (chgL (rwI I o (I (o + 2) c)) (rwI I o c) (l.take k))) → axX G f 0 0 (fun r1 T1 N1 I1 R1 z1 => (r1 = none ∧ (∀ q, q ≠ o → (q < o + 8 ∨ o + 14 < q) → I1 q = I q) ∧ (∀ k, k ≠ 13 → k ≠ 19 → I1 o k = I o k) ∧ (I1 o 13) = (pcsC I o c).length ∧ (I1 o 19) = (chFlat (chgC I o c)).length ∧ seg (I1 (o + 14)) a_ (a_ + (chFlat (chgC I o c)).length) = chFlat (chgC I o c) ∧ (∀ j, j < a_ ∨ a_ + 80 ≤ j → I1 (o + 14) j = I (o + 14) j) ∧ (chFlat (chgC I o c)).length ≤ 66) ∧ T1 = T ∧ N1 = N ∧ R1 = R ∧ z1 = z) 12 [vR o, vI c, vI a_, vI (k : Int), c4] [] T N J R z 0 0 := by
    intro B hB hBp hBm m
    induction m with
    | zero =>
      intro k J c4 hm hk hJ ht
      have hpJ : (J o 13) = l.length := by rw [hJ.2 13 (by omega)]; exact hBp
      refine x_iload_n (pc := 12) hC dX12_tells_12 rfl ?_
      refine x_aload_n (pc := 13) hC dX12_tells_13 rfl ?_
      refine x_getI (pc := 14) hC gf_X12_151 dX12_tells_14 M.1 ?_
      refine x_icmp_ge (pc := 17) hC 215 dX12_tells_17 (by decide) (by omega) (by omega) (fun b17 => ?_) (fun b17 => ?_)
      · refine x_vret (pc := 215) hC rfl dX12_tells_215 ?_
        have hkl : k = l.length := by omega
        rw [hkl, List.take_length] at ht
        obtain ⟨t1, t2, t3⟩ := ht
        have hcc : chgC I o c = chgL (rwI I o (I (o + 2) c)) (rwI I o c) l := by rw [hl1]; rfl
        refine ⟨⟨rfl, fun q a1 a2 => ?_, fun k a1 a2 => ?_, ?_, ?_, ?_, fun j a1 => ?_, ?_⟩, rfl, rfl, rfl, rfl⟩
        · rw [hJ.1 q a1 (by omega)]; exact hB.1 q a1 (by omega)
        · rw [hJ.2 k a2]; exact hB.2 k a1
        · rw [hpJ, hl1]
        · rw [hcc]; exact t1
        · rw [hcc]; exact t2
        · rw [t3 j a1]; rw [hB.1 (o + 14) (by omega) (by omega)]
        · rw [hcc]; have := hpo.2.2; omega
      · omega
    | succ m ih =>
      intro k J c4 hm hk hJ ht
      have hpJ : (J o 13) = l.length := by rw [hJ.2 13 (by omega)]; exact hBp
      refine x_iload_n (pc := 12) hC dX12_tells_12 rfl ?_
      refine x_aload_n (pc := 13) hC dX12_tells_13 rfl ?_
      refine x_getI (pc := 14) hC gf_X12_151 dX12_tells_14 M.1 ?_
      refine x_icmp_ge (pc := 17) hC 215 dX12_tells_17 (by decide) (by omega) (by omega) (fun b17 => ?_) (fun b17 => ?_)
      · refine x_vret (pc := 215) hC rfl dX12_tells_215 ?_
        have hkl : k = l.length := by omega
        rw [hkl, List.take_length] at ht
        obtain ⟨t1, t2, t3⟩ := ht
        have hcc : chgC I o c = chgL (rwI I o (I (o + 2) c)) (rwI I o c) l := by rw [hl1]; rfl
        refine ⟨⟨rfl, fun q a1 a2 => ?_, fun k a1 a2 => ?_, ?_, ?_, ?_, fun j a1 => ?_, ?_⟩, rfl, rfl, rfl, rfl⟩
        · rw [hJ.1 q a1 (by omega)]; exact hB.1 q a1 (by omega)
        · rw [hJ.2 k a2]; exact hB.2 k a1
        · rw [hpJ, hl1]
        · rw [hcc]; exact t1
        · rw [hcc]; exact t2
        · rw [t3 j a1]; rw [hB.1 (o + 14) (by omega) (by omega)]
        · rw [hcc]; have := hpo.2.2; omega
      · have hklt : k < l.length := by omega
        obtain ⟨q, hq⟩ : ∃ q, l[k]? = some q := ⟨_, List.getElem?_eq_getElem hklt⟩
        have hqm : q ∈ l := List.mem_of_getElem? hq
        obtain ⟨q1, q2, q3, q4, q5, q6⟩ := hpo.1 q hqm
        obtain ⟨m1, m2, m3, m4⟩ := hBm k q hq
        have hsn := take_snoc hq
        have hroom : (((chFlat (chgL (rwI I o (I (o + 2) c)) (rwI I o c) (l.take k)))).length : Int) + (2 + (q.2.1 - q.1) + (q.2.2.2 - q.2.2.1)) ≤ 66 := by
          have h1 := chFlat_len (rwI I o (I (o + 2) c)) (rwI I o c) (l.take (k + 1)) (fun r hr => hpo.1 r (List.mem_of_mem_take hr))
          have h2 := chFlat_len (rwI I o (I (o + 2) c)) (rwI I o c) (l.take k) (fun r hr => hpo.1 r (List.mem_of_mem_take hr))
          have h3 : ptot l = ptot (l.take (k + 1)) + ptot (l.drop (k + 1)) := by rw [← ptot_app, List.take_append_drop]
          have h4 := ptot_nn (l.drop (k + 1)) (fun r hr => hpo.1 r (List.mem_of_mem_drop hr))
          have h5 : ptot (l.take (k + 1)) = ptot (l.take k) + (2 + (q.2.1 - q.1) + (q.2.2.2 - q.2.2.1)) := by rw [hsn, ptot_app]; simp [ptot]
          have := hpo.2.2
          omega
        obtain ⟨L, hL⟩ : ∃ L, L = (chFlat (chgL (rwI I o (I (o + 2) c)) (rwI I o c) (l.take k))) := ⟨_, rfl⟩
        rw [← hL] at ht hroom
        have kr : k < 17 := by omega
        have rd : ∀ J, agT B J o → J (o + 10) (k : Int) = q.1 ∧ J (o + 11) (k : Int) = q.2.1 ∧ J (o + 12) (k : Int) = q.2.2.1 ∧ J (o + 13) (k : Int) = q.2.2.2 ∧ J (o + 5) = I (o + 5) ∧ J (o + 2) = I (o + 2) := fun J h => ⟨by rw [h.1 (o + 10) (by omega) (by omega)]; exact m1, by rw [h.1 (o + 11) (by omega) (by omega)]; exact m2, by rw [h.1 (o + 12) (by omega) (by omega)]; exact m3, by rw [h.1 (o + 13) (by omega) (by omega)]; exact m4, by rw [h.1 (o + 5) (by omega) (by omega)]; exact hB.1 (o + 5) (by omega) (by omega), by rw [h.1 (o + 2) (by omega) (by omega)]; exact hB.1 (o + 2) (by omega) (by omega)⟩
        have hup0 : c ≠ 0 := by
          intro h0
          rw [hl1] at hqm
          simp [pcsC, h0] at hqm
        have hup := hup hup0
        have lpB : ∀ (n : Nat) (j : Int) (J : Nat → Int → Int), (q.2.2.2 - j).toNat ≤ n → q.2.2.1 ≤ j → j ≤ q.2.2.2 → agT B J o → tM B J o a_ (L ++ (q.2.1 - q.1) :: seg (rwI I o (I (o + 2) c)) q.1 q.2.1 ++ (q.2.2.2 - q.2.2.1) :: seg (rwI I o c) q.2.2.1 j) → axX G f 0 0 (fun r1 T1 N1 I1 R1 z1 => (r1 = none ∧ (∀ q, q ≠ o → (q < o + 8 ∨ o + 14 < q) → I1 q = I q) ∧ (∀ k, k ≠ 13 → k ≠ 19 → I1 o k = I o k) ∧ (I1 o 13) = (pcsC I o c).length ∧ (I1 o 19) = (chFlat (chgC I o c)).length ∧ seg (I1 (o + 14)) a_ (a_ + (chFlat (chgC I o c)).length) = chFlat (chgC I o c) ∧ (∀ j, j < a_ ∨ a_ + 80 ≤ j → I1 (o + 14) j = I (o + 14) j) ∧ (chFlat (chgC I o c)).length ≤ 66) ∧ T1 = T ∧ N1 = N ∧ R1 = R ∧ z1 = z) 159 [vR o, vI c, vI a_, vI (k : Int), vI j] [] T N J R z 0 0 := by
          intro n
          induction n with
          | zero =>
            intro j J hn h1 h2 hJ ht
            obtain ⟨r1, r2, r3, r4, r5, r6⟩ := rd J hJ
            refine x_iload (pc := 159) hC dX12_tells_159 rfl ?_
            refine x_aload_n (pc := 161) hC dX12_tells_161 rfl ?_
            refine x_getO (pc := 162) hC gf_X12_46 dX12_tells_162 M.1 (mo_inTo M).1 ?_
            refine x_iload_n (pc := 165) hC dX12_tells_165 rfl ?_
            refine x_iald (pc := 166) hC dX12_tells_166 (mo_inTo M).2.1 (by omega) (by rw [(mo_inTo M).2.2]; omega) ?_
            refine x_icmp_ge (pc := 167) hC 209 dX12_tells_167 (by decide) (by omega) (by omega) (fun b167 => ?_) (fun b167 => ?_)
            · have hj2 : j = q.2.2.2 := by omega
              subst hj2
              refine x_iinc (pc := 209) hC dX12_tells_209 rfl ?_
              dsimp only [List.set]
              refine x_goto (pc := 212) hC 12 dX12_tells_212 (by decide) ?_
              refine ih (k + 1) J _ (by omega) (by omega) hJ ?_
              rw [hsn, chFlat_snoc _ _ _ _ ⟨q1, q2, q3, q4, q5, q6⟩, ← hL]
              exact ht
            · omega
          | succ n ihn =>
            intro j J hn h1 h2 hJ ht
            obtain ⟨r1, r2, r3, r4, r5, r6⟩ := rd J hJ
            have hts : (J o 19) = (L.length : Int) + 2 + (q.2.1 - q.1) + (j - q.2.2.1) := by
              have := ht.1
              simp only [List.length_append, List.length_cons, seg_len] at this
              omega
            refine x_iload (pc := 159) hC dX12_tells_159 rfl ?_
            refine x_aload_n (pc := 161) hC dX12_tells_161 rfl ?_
            refine x_getO (pc := 162) hC gf_X12_46 dX12_tells_162 M.1 (mo_inTo M).1 ?_
            refine x_iload_n (pc := 165) hC dX12_tells_165 rfl ?_
            refine x_iald (pc := 166) hC dX12_tells_166 (mo_inTo M).2.1 (by omega) (by rw [(mo_inTo M).2.2]; omega) ?_
            refine x_icmp_ge (pc := 167) hC 209 dX12_tells_167 (by decide) (by omega) (by omega) (fun b167 => ?_) (fun b167 => ?_)
            · have hj2 : j = q.2.2.2 := by omega
              subst hj2
              refine x_iinc (pc := 209) hC dX12_tells_209 rfl ?_
              dsimp only [List.set]
              refine x_goto (pc := 212) hC 12 dX12_tells_212 (by decide) ?_
              refine ih (k + 1) J _ (by omega) (by omega) hJ ?_
              rw [hsn, chFlat_snoc _ _ _ _ ⟨q1, q2, q3, q4, q5, q6⟩, ← hL]
              exact ht
            · refine x_aload_n (pc := 170) hC dX12_tells_170 rfl ?_
              refine x_getO (pc := 171) hC gf_X12_49 dX12_tells_171 M.1 (mo_told M).1 ?_
              refine x_iload_n (pc := 174) hC dX12_tells_174 rfl ?_
              refine x_aload_n (pc := 175) hC dX12_tells_175 rfl ?_
              refine x_getI (pc := 176) hC gf_X12_165 dX12_tells_176 M.1 ?_
              refine x_iadd (pc := 179) hC dX12_tells_179 ?_
              refine x_aload_n (pc := 180) hC dX12_tells_180 rfl ?_
              refine x_getO (pc := 181) hC gf_X12_22 dX12_tells_181 M.1 (mo_line M).1 ?_
              refine x_bipush (pc := 184) hC dX12_tells_184 (by decide) ?_
              refine x_iload_n (pc := 186) hC dX12_tells_186 rfl ?_
              refine x_imul (pc := 187) hC dX12_tells_187 ?_
              refine x_iload (pc := 188) hC dX12_tells_188 rfl ?_
              refine x_iadd (pc := 190) hC dX12_tells_190 ?_
              refine x_iald (pc := 191) hC dX12_tells_191 (mo_line M).2.1 (by omega) (by rw [(mo_line M).2.2]; omega) ?_
              refine x_iast (pc := 192) hC dX12_tells_192 (mo_told M).2.1 (by omega) (by rw [(mo_told M).2.2]; omega) ?_
              refine x_aload_n (pc := 193) hC dX12_tells_193 rfl ?_
              refine x_dup (pc := 194) hC dX12_tells_194 rfl ?_
              refine x_getI (pc := 195) hC gf_X12_165 dX12_tells_195 M.1 ?_
              refine x_iconst (pc := 198) hC dX12_tells_198 ?_
              refine x_iadd (pc := 199) hC dX12_tells_199 ?_
              refine x_putI (pc := 200) hC pf_X12_165 dX12_tells_200 M.1 (by decide) ?_
              refine x_iinc (pc := 203) hC dX12_tells_203 rfl ?_
              dsimp only [List.set]
              refine x_goto (pc := 206) hC 159 dX12_tells_206 (by decide) ?_
              refine ihn (j + 1) _ (by omega) (by omega) (by omega) hJ.app ?_
              rw [seg_snoc (by omega), show J (o + 5) (16 * c + j) = rwI I o c j by rw [r5]]
              have h9 := ht.app (v := rwI I o c j) (by have := ht.1; omega)
              simp only [List.append_assoc, List.cons_append] at h9 ⊢
              exact h9
        have lpA : ∀ (n : Nat) (j : Int) (J : Nat → Int → Int), (q.2.1 - j).toNat ≤ n → q.1 ≤ j → j ≤ q.2.1 → agT B J o → tM B J o a_ (L ++ (q.2.1 - q.1) :: seg (rwI I o (I (o + 2) c)) q.1 j) → axX G f 0 0 (fun r1 T1 N1 I1 R1 z1 => (r1 = none ∧ (∀ q, q ≠ o → (q < o + 8 ∨ o + 14 < q) → I1 q = I q) ∧ (∀ k, k ≠ 13 → k ≠ 19 → I1 o k = I o k) ∧ (I1 o 13) = (pcsC I o c).length ∧ (I1 o 19) = (chFlat (chgC I o c)).length ∧ seg (I1 (o + 14)) a_ (a_ + (chFlat (chgC I o c)).length) = chFlat (chgC I o c) ∧ (∀ j, j < a_ ∨ a_ + 80 ≤ j → I1 (o + 14) j = I (o + 14) j) ∧ (chFlat (chgC I o c)).length ≤ 66) ∧ T1 = T ∧ N1 = N ∧ R1 = R ∧ z1 = z) 62 [vR o, vI c, vI a_, vI (k : Int), vI j] [] T N J R z 0 0 := by
          intro n
          induction n with
          | zero =>
            intro j J hn h1 h2 hJ ht
            obtain ⟨r1, r2, r3, r4, r5, r6⟩ := rd J hJ
            have hts : (J o 19) = (L.length : Int) + 1 + (j - q.1) := by
              have := ht.1
              simp only [List.length_append, List.length_cons, seg_len] at this
              omega
            refine x_iload (pc := 62) hC dX12_tells_62 rfl ?_
            refine x_aload_n (pc := 64) hC dX12_tells_64 rfl ?_
            refine x_getO (pc := 65) hC gf_X12_40 dX12_tells_65 M.1 (mo_outTo M).1 ?_
            refine x_iload_n (pc := 68) hC dX12_tells_68 rfl ?_
            refine x_iald (pc := 69) hC dX12_tells_69 (mo_outTo M).2.1 (by omega) (by rw [(mo_outTo M).2.2]; omega) ?_
            refine x_icmp_ge (pc := 70) hC 117 dX12_tells_70 (by decide) (by omega) (by omega) (fun b70 => ?_) (fun b70 => ?_)
            · have hj2 : j = q.2.1 := by omega
              subst hj2
              refine x_aload_n (pc := 117) hC dX12_tells_117 rfl ?_
              refine x_getO (pc := 118) hC gf_X12_49 dX12_tells_118 M.1 (mo_told M).1 ?_
              refine x_iload_n (pc := 121) hC dX12_tells_121 rfl ?_
              refine x_aload_n (pc := 122) hC dX12_tells_122 rfl ?_
              refine x_getI (pc := 123) hC gf_X12_165 dX12_tells_123 M.1 ?_
              refine x_iadd (pc := 126) hC dX12_tells_126 ?_
              refine x_aload_n (pc := 127) hC dX12_tells_127 rfl ?_
              refine x_getO (pc := 128) hC gf_X12_46 dX12_tells_128 M.1 (mo_inTo M).1 ?_
              refine x_iload_n (pc := 131) hC dX12_tells_131 rfl ?_
              refine x_iald (pc := 132) hC dX12_tells_132 (mo_inTo M).2.1 (by omega) (by rw [(mo_inTo M).2.2]; omega) ?_
              refine x_aload_n (pc := 133) hC dX12_tells_133 rfl ?_
              refine x_getO (pc := 134) hC gf_X12_43 dX12_tells_134 M.1 (mo_inFrom M).1 ?_
              refine x_iload_n (pc := 137) hC dX12_tells_137 rfl ?_
              refine x_iald (pc := 138) hC dX12_tells_138 (mo_inFrom M).2.1 (by omega) (by rw [(mo_inFrom M).2.2]; omega) ?_
              refine x_isub (pc := 139) hC dX12_tells_139 ?_
              rw [r4, r3]
              refine x_iast (pc := 140) hC dX12_tells_140 (mo_told M).2.1 (by omega) (by rw [(mo_told M).2.2]; omega) ?_
              have hJ2 := hJ.app (a := a_) (v := q.2.2.2 - q.2.2.1)
              have ht2 := ht.app (v := q.2.2.2 - q.2.2.1) (by have := ht.1; omega)
              refine x_aload_n (pc := 141) hC dX12_tells_141 rfl ?_
              refine x_dup (pc := 142) hC dX12_tells_142 rfl ?_
              refine x_getI (pc := 143) hC gf_X12_165 dX12_tells_143 M.1 ?_
              refine x_iconst (pc := 146) hC dX12_tells_146 ?_
              refine x_iadd (pc := 147) hC dX12_tells_147 ?_
              refine x_putI (pc := 148) hC pf_X12_165 dX12_tells_148 M.1 (by decide) ?_
              obtain ⟨s1, s2, s3, s4, s5, s6⟩ := rd _ hJ2
              refine x_aload_n (pc := 151) hC dX12_tells_151 rfl ?_
              refine x_getO (pc := 152) hC gf_X12_43 dX12_tells_152 M.1 (mo_inFrom M).1 ?_
              refine x_iload_n (pc := 155) hC dX12_tells_155 rfl ?_
              refine x_iald (pc := 156) hC dX12_tells_156 (mo_inFrom M).2.1 (by omega) (by rw [(mo_inFrom M).2.2]; omega) ?_
              refine x_istore (pc := 157) hC dX12_tells_157 (Nat.le_of_ble_eq_true rfl) ?_
              dsimp only [List.set]
              simp only [tApp] at s3
              rw [s3]
              refine lpB (q.2.2.2 - q.2.2.1).toNat q.2.2.1 _ (by omega) (by omega) (by omega) hJ2 ?_
              rw [seg_nil (Int.le_refl _)]
              simp only [List.append_assoc, List.cons_append] at ht2 ⊢
              exact ht2
            · omega
          | succ n ihn =>
            intro j J hn h1 h2 hJ ht
            obtain ⟨r1, r2, r3, r4, r5, r6⟩ := rd J hJ
            have hts : (J o 19) = (L.length : Int) + 1 + (j - q.1) := by
              have := ht.1
              simp only [List.length_append, List.length_cons, seg_len] at this
              omega
            refine x_iload (pc := 62) hC dX12_tells_62 rfl ?_
            refine x_aload_n (pc := 64) hC dX12_tells_64 rfl ?_
            refine x_getO (pc := 65) hC gf_X12_40 dX12_tells_65 M.1 (mo_outTo M).1 ?_
            refine x_iload_n (pc := 68) hC dX12_tells_68 rfl ?_
            refine x_iald (pc := 69) hC dX12_tells_69 (mo_outTo M).2.1 (by omega) (by rw [(mo_outTo M).2.2]; omega) ?_
            refine x_icmp_ge (pc := 70) hC 117 dX12_tells_70 (by decide) (by omega) (by omega) (fun b70 => ?_) (fun b70 => ?_)
            · have hj2 : j = q.2.1 := by omega
              subst hj2
              refine x_aload_n (pc := 117) hC dX12_tells_117 rfl ?_
              refine x_getO (pc := 118) hC gf_X12_49 dX12_tells_118 M.1 (mo_told M).1 ?_
              refine x_iload_n (pc := 121) hC dX12_tells_121 rfl ?_
              refine x_aload_n (pc := 122) hC dX12_tells_122 rfl ?_
              refine x_getI (pc := 123) hC gf_X12_165 dX12_tells_123 M.1 ?_
              refine x_iadd (pc := 126) hC dX12_tells_126 ?_
              refine x_aload_n (pc := 127) hC dX12_tells_127 rfl ?_
              refine x_getO (pc := 128) hC gf_X12_46 dX12_tells_128 M.1 (mo_inTo M).1 ?_
              refine x_iload_n (pc := 131) hC dX12_tells_131 rfl ?_
              refine x_iald (pc := 132) hC dX12_tells_132 (mo_inTo M).2.1 (by omega) (by rw [(mo_inTo M).2.2]; omega) ?_
              refine x_aload_n (pc := 133) hC dX12_tells_133 rfl ?_
              refine x_getO (pc := 134) hC gf_X12_43 dX12_tells_134 M.1 (mo_inFrom M).1 ?_
              refine x_iload_n (pc := 137) hC dX12_tells_137 rfl ?_
              refine x_iald (pc := 138) hC dX12_tells_138 (mo_inFrom M).2.1 (by omega) (by rw [(mo_inFrom M).2.2]; omega) ?_
              refine x_isub (pc := 139) hC dX12_tells_139 ?_
              rw [r4, r3]
              refine x_iast (pc := 140) hC dX12_tells_140 (mo_told M).2.1 (by omega) (by rw [(mo_told M).2.2]; omega) ?_
              have hJ2 := hJ.app (a := a_) (v := q.2.2.2 - q.2.2.1)
              have ht2 := ht.app (v := q.2.2.2 - q.2.2.1) (by have := ht.1; omega)
              refine x_aload_n (pc := 141) hC dX12_tells_141 rfl ?_
              refine x_dup (pc := 142) hC dX12_tells_142 rfl ?_
              refine x_getI (pc := 143) hC gf_X12_165 dX12_tells_143 M.1 ?_
              refine x_iconst (pc := 146) hC dX12_tells_146 ?_
              refine x_iadd (pc := 147) hC dX12_tells_147 ?_
              refine x_putI (pc := 148) hC pf_X12_165 dX12_tells_148 M.1 (by decide) ?_
              obtain ⟨s1, s2, s3, s4, s5, s6⟩ := rd _ hJ2
              refine x_aload_n (pc := 151) hC dX12_tells_151 rfl ?_
              refine x_getO (pc := 152) hC gf_X12_43 dX12_tells_152 M.1 (mo_inFrom M).1 ?_
              refine x_iload_n (pc := 155) hC dX12_tells_155 rfl ?_
              refine x_iald (pc := 156) hC dX12_tells_156 (mo_inFrom M).2.1 (by omega) (by rw [(mo_inFrom M).2.2]; omega) ?_
              refine x_istore (pc := 157) hC dX12_tells_157 (Nat.le_of_ble_eq_true rfl) ?_
              dsimp only [List.set]
              simp only [tApp] at s3
              rw [s3]
              refine lpB (q.2.2.2 - q.2.2.1).toNat q.2.2.1 _ (by omega) (by omega) (by omega) hJ2 ?_
              rw [seg_nil (Int.le_refl _)]
              simp only [List.append_assoc, List.cons_append] at ht2 ⊢
              exact ht2
            · refine x_aload_n (pc := 73) hC dX12_tells_73 rfl ?_
              refine x_getO (pc := 74) hC gf_X12_49 dX12_tells_74 M.1 (mo_told M).1 ?_
              refine x_iload_n (pc := 77) hC dX12_tells_77 rfl ?_
              refine x_aload_n (pc := 78) hC dX12_tells_78 rfl ?_
              refine x_getI (pc := 79) hC gf_X12_165 dX12_tells_79 M.1 ?_
              refine x_iadd (pc := 82) hC dX12_tells_82 ?_
              refine x_aload_n (pc := 83) hC dX12_tells_83 rfl ?_
              refine x_getO (pc := 84) hC gf_X12_22 dX12_tells_84 M.1 (mo_line M).1 ?_
              refine x_bipush (pc := 87) hC dX12_tells_87 (by decide) ?_
              refine x_aload_n (pc := 89) hC dX12_tells_89 rfl ?_
              refine x_getO (pc := 90) hC gf_X12_13 dX12_tells_90 M.1 (mo_parent M).1 ?_
              refine x_iload_n (pc := 93) hC dX12_tells_93 rfl ?_
              refine x_iald (pc := 94) hC dX12_tells_94 (mo_parent M).2.1 (by omega) (by rw [(mo_parent M).2.2]; omega) ?_
              rw [r6]
              refine x_imul (pc := 95) hC dX12_tells_95 ?_
              refine x_iload (pc := 96) hC dX12_tells_96 rfl ?_
              refine x_iadd (pc := 98) hC dX12_tells_98 ?_
              refine x_iald (pc := 99) hC dX12_tells_99 (mo_line M).2.1 (by omega) (by rw [(mo_line M).2.2]; omega) ?_
              refine x_iast (pc := 100) hC dX12_tells_100 (mo_told M).2.1 (by omega) (by rw [(mo_told M).2.2]; omega) ?_
              refine x_aload_n (pc := 101) hC dX12_tells_101 rfl ?_
              refine x_dup (pc := 102) hC dX12_tells_102 rfl ?_
              refine x_getI (pc := 103) hC gf_X12_165 dX12_tells_103 M.1 ?_
              refine x_iconst (pc := 106) hC dX12_tells_106 ?_
              refine x_iadd (pc := 107) hC dX12_tells_107 ?_
              refine x_putI (pc := 108) hC pf_X12_165 dX12_tells_108 M.1 (by decide) ?_
              refine x_iinc (pc := 111) hC dX12_tells_111 rfl ?_
              dsimp only [List.set]
              refine x_goto (pc := 114) hC 62 dX12_tells_114 (by decide) ?_
              refine ihn (j + 1) _ (by omega) (by omega) (by omega) hJ.app ?_
              rw [seg_snoc (by omega), show J (o + 5) (16 * I (o + 2) c + j) = rwI I o (I (o + 2) c) j by rw [r5]]
              have h9 := ht.app (v := rwI I o (I (o + 2) c) j) (by have := ht.1; omega)
              simp only [List.append_assoc, List.cons_append] at h9 ⊢
              exact h9
        obtain ⟨r1, r2, r3, r4, r5, r6⟩ := rd J hJ
        have hts : (J o 19) = (L.length : Int) := ht.1
        refine x_aload_n (pc := 20) hC dX12_tells_20 rfl ?_
        refine x_getO (pc := 21) hC gf_X12_49 dX12_tells_21 M.1 (mo_told M).1 ?_
        refine x_iload_n (pc := 24) hC dX12_tells_24 rfl ?_
        refine x_aload_n (pc := 25) hC dX12_tells_25 rfl ?_
        refine x_getI (pc := 26) hC gf_X12_165 dX12_tells_26 M.1 ?_
        refine x_iadd (pc := 29) hC dX12_tells_29 ?_
        refine x_aload_n (pc := 30) hC dX12_tells_30 rfl ?_
        refine x_getO (pc := 31) hC gf_X12_40 dX12_tells_31 M.1 (mo_outTo M).1 ?_
        refine x_iload_n (pc := 34) hC dX12_tells_34 rfl ?_
        refine x_iald (pc := 35) hC dX12_tells_35 (mo_outTo M).2.1 (by omega) (by rw [(mo_outTo M).2.2]; omega) ?_
        refine x_aload_n (pc := 36) hC dX12_tells_36 rfl ?_
        refine x_getO (pc := 37) hC gf_X12_37 dX12_tells_37 M.1 (mo_outFrom M).1 ?_
        refine x_iload_n (pc := 40) hC dX12_tells_40 rfl ?_
        refine x_iald (pc := 41) hC dX12_tells_41 (mo_outFrom M).2.1 (by omega) (by rw [(mo_outFrom M).2.2]; omega) ?_
        refine x_isub (pc := 42) hC dX12_tells_42 ?_
        rw [r2, r1]
        refine x_iast (pc := 43) hC dX12_tells_43 (mo_told M).2.1 (by omega) (by rw [(mo_told M).2.2]; omega) ?_
        have hJ2 := hJ.app (a := a_) (v := q.2.1 - q.1)
        have ht2 := ht.app (v := q.2.1 - q.1) (by omega)
        refine x_aload_n (pc := 44) hC dX12_tells_44 rfl ?_
        refine x_dup (pc := 45) hC dX12_tells_45 rfl ?_
        refine x_getI (pc := 46) hC gf_X12_165 dX12_tells_46 M.1 ?_
        refine x_iconst (pc := 49) hC dX12_tells_49 ?_
        refine x_iadd (pc := 50) hC dX12_tells_50 ?_
        refine x_putI (pc := 51) hC pf_X12_165 dX12_tells_51 M.1 (by decide) ?_
        obtain ⟨s1, s2, s3, s4, s5, s6⟩ := rd _ hJ2
        refine x_aload_n (pc := 54) hC dX12_tells_54 rfl ?_
        refine x_getO (pc := 55) hC gf_X12_37 dX12_tells_55 M.1 (mo_outFrom M).1 ?_
        refine x_iload_n (pc := 58) hC dX12_tells_58 rfl ?_
        refine x_iald (pc := 59) hC dX12_tells_59 (mo_outFrom M).2.1 (by omega) (by rw [(mo_outFrom M).2.2]; omega) ?_
        refine x_istore (pc := 60) hC dX12_tells_60 (Nat.le_of_ble_eq_true rfl) ?_
        dsimp only [List.set]
        simp only [tApp] at s1
        rw [s1]
        refine lpA (q.2.1 - q.1).toNat q.1 _ (by omega) (by omega) (by omega) hJ2 ?_
        rw [seg_nil (Int.le_refl _)]
        exact ht2
  refine x_aload_n (pc := 0) hC dX12_tells_0 rfl ?_
  refine x_iload_n (pc := 1) hC dX12_tells_1 rfl ?_
  refine x_mVx (pc := 2) hC cv_X12_162 dX12_tells_2 (m_change M hl hc hup) M.1 rfl (by decide) rfl rfl (Nat.le_of_ble_eq_true rfl) ?_
  rintro v B ⟨rfl, hB, hBp, hBm⟩
  dsimp only [Option.toList, List.nil_append]
  rw [← hl1] at hBp hBm
  refine x_aload_n (pc := 5) hC dX12_tells_5 rfl ?_
  refine x_iconst (pc := 6) hC dX12_tells_6 ?_
  refine x_putI (pc := 7) hC pf_X12_165 dX12_tells_7 M.1 (by decide) ?_
  refine x_iconst (pc := 10) hC dX12_tells_10 ?_
  refine x_istore_n (pc := 11) hC dX12_tells_11 (Nat.le_of_ble_eq_true rfl) ?_
  dsimp only [List.set]
  refine main B hB hBp hBm l.length 0 _ _ (by omega) (by omega) ⟨fun q a1 _ => axu_row a1, fun k a1 => axu_j a1⟩ ⟨?_, ?_, fun j _ => by rw [axu_row (show o + 14 ≠ o by omega)]⟩
  · rw [axu_s]; simp [chgL, chFlat]
  · simp [chgL, chFlat]; exact seg_nil (by omega)

