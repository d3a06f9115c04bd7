/-! THE REFERENCE: a replay goes on, to its end or to a stop -/
/-- what holds of a replay under way -/
def rp (σ : Nat → Int → Int) (o : Nat) : Prop := (0 ≤ σ o 47 ∧ σ o 47 ≤ σ o 46 ∧ σ o 46 ≤ 24) ∧ (∀ i, 0 ≤ i → i < σ o 46 → 0 < σ (o + 28) i ∧ σ (o + 28) i < σ o 2) ∧ (0 ≤ σ o 43 ∧ σ o 43 < σ o 2) ∧ (0 ≤ σ o 42 ∧ σ o 42 < σ o 2) ∧ (0 ≤ σ o 41 ∧ σ o 41 < 4) ∧ 0 ≤ σ o 44 ∧ σ o 44 ≤ 24
def gI (σ : Nat → Int → Int) (o : Nat) : Prop := miC σ o ∧ miR σ o ∧ rp σ o
abbrev goX (σ : Nat → Int → Int) (o : Nat) : Int := σ (o + 28) (σ o 47)
def goM (σ : Nat → Int → Int) (o : Nat) : List Int × Int × List Gp := mrgL (rsL σ o) (rowL σ o (σ (o + 2) (goX σ o))) (rowL σ o (σ o 43)) (rowL σ o (goX σ o))
def stp (m : List Int × Int × List Gp) : Int := if m.2.2.length > 0 then 1 else if m.1.length > 16 then 2 else 0
def nxt (σ : Nat → Int → Int) (o : Nat) : Nat → Int → Int := ax_u σ o 47 (σ o 47 + 1)
/-- one that is there already -/
def goL (σ : Nat → Int → Int) (o : Nat) : Nat → Int → Int := nxt (ax_u σ (o + 29) 1 (σ (o + 29) 1 + 1)) o
def goP (σ : Nat → Int → Int) (o : Nat) : Nat → Int → Int := nxt (puF σ o (goX σ o) (goM σ o).1 (goM σ o).2.1) o
def goF (o : Nat) : Nat → Int → (Nat → Int → Int) → Int × (Nat → Int → Int)
  | 0, _, σ => (0, ax_u σ (o + 7) (σ o 41) (σ o 43))
  | n + 1, fl, σ => if fl ≠ 0 ∧ thP σ o (goX σ o) (σ o 41) (σ o 42) then goF o n 1 (goL σ o) else if stp (goM σ o) = 0 then goF o n 1 (goP σ o) else (stp (goM σ o), ax_u σ o 40 (stp (goM σ o)))
theorem stp_r (m : List Int × Int × List Gp) : 0 ≤ stp m ∧ stp m ≤ 2 := by unfold stp; split <;> (try split) <;> omega
theorem scr.nxte {I J : Nat → Int → Int} {o : Nat} (h : scr I J o) : scr (nxt I o) (nxt J o) o := by
  unfold nxt
  rw [h.2 47 (by unfold sfd; omega)]
  exact h.u
theorem scr.goMe {I J : Nat → Int → Int} {o : Nat} (h : scr I J o) : goM J o = goM I o := by
  unfold goM goX
  rw [h.rsLe, h.rowLe, h.rowLe, h.rowLe, h.2 47 (by unfold sfd; omega), h.2 43 (by unfold sfd; omega), h.1 (o + 28) (by omega) (by omega), h.1 (o + 2) (by omega) (by omega)]
theorem scr.rpe {I J : Nat → Int → Int} {o : Nat} (h : scr I J o) (hr : rp I o) : rp J o := by
  unfold rp at *
  rw [h.2 47 (by unfold sfd; omega), h.2 43 (by unfold sfd; omega), h.1 (o + 28) (by omega) (by omega), h.2 46 (by unfold sfd; omega), h.2 42 (by unfold sfd; omega), h.2 41 (by unfold sfd; omega), h.2 44 (by unfold sfd; omega), h.2 2 (by unfold sfd; omega)]
  exact hr
theorem axu_id {I : Nat → Int → Int} {a : Nat} {j v : Int} (h : v = I a j) : ax_u I a j v = I := by
  funext b i
  unfold ax_u
  by_cases q : b = a ∧ i = j
  · rw [if_pos q, q.1, q.2, h]
  · rw [if_neg q]
theorem gI_fr {I J : Nat → Int → Int} {o : Nat} (hO : J o = I o) (h : ∀ q, o < q → q < o + 29 → J q = I q) (g : gI I o) : gI J o := by
  refine ⟨miC_eq (by rw [hO]) (h _ (by omega) (by omega)) (h _ (by omega) (by omega)) (h _ (by omega) (by omega)) (h _ (by omega) (by omega)) (h _ (by omega) (by omega)) g.1, miR_eq (by rw [hO]) (h _ (by omega) (by omega)) (h _ (by omega) (by omega)) (h _ (by omega) (by omega)) (h _ (by omega) (by omega)) g.2.1, ?_⟩
  unfold rp
  rw [hO, h _ (by omega) (by omega)]
  exact g.2.2
theorem gI_u29 {I : Nat → Int → Int} {o : Nat} {j v : Int} (g : gI I o) : gI (ax_u I (o + 29) j v) o := gI_fr (axu_row (by omega)) (fun q a b => axu_row (by omega)) g
theorem gI_nxt {I : Nat → Int → Int} {o : Nat} (g : gI I o) (h : I o 47 < I o 46) : gI (nxt I o) o := by
  have hr : ∀ q, o < q → q < o + 29 → nxt I o q = I q := fun q a b => axu_row (by omega)
  have ho : ∀ k, k ≠ 47 → nxt I o o k = I o k := fun k hk => axu_j hk
  refine ⟨miC_eq (ho 2 (by decide)) (hr _ (by omega) (by omega)) (hr _ (by omega) (by omega)) (hr _ (by omega) (by omega)) (hr _ (by omega) (by omega)) (hr _ (by omega) (by omega)) g.1, miR_eq (ho _ (by decide)) (hr _ (by omega) (by omega)) (hr _ (by omega) (by omega)) (hr _ (by omega) (by omega)) (hr _ (by omega) (by omega)) g.2.1, ?_⟩
  obtain ⟨g1, g2⟩ := g.2.2
  unfold rp
  rw [ho 46 (by decide), ho 43 (by decide), ho 42 (by decide), ho 41 (by decide), ho 44 (by decide), ho 2 (by decide), hr (o + 28) (by omega) (by omega), show nxt I o o 47 = I o 47 + 1 from axu_s]
  exact ⟨by omega, g2⟩
theorem gI_lay {I : Nat → Int → Int} {o : Nat} {c : Int} {L : List Int} (g : gI I o) (hL : (L.length : Int) ≤ 16) (hn : isLn L) : gI (layI I o c L) o := by
  have hr : ∀ q, q ≠ o + 5 → q ≠ o + 6 → layI I o c L q = I q := fun q a b => lay_row a b
  obtain ⟨g1, g2, g3⟩ := g
  refine ⟨?_, miR_eq (by rw [hr o (by omega) (by omega)]) (hr _ (by omega) (by omega)) (hr _ (by omega) (by omega)) (hr _ (by omega) (by omega)) (hr _ (by omega) (by omega)) g2, ?_⟩
  · obtain ⟨m1, m2, m3⟩ := g1
    refine ⟨by rw [hr o (by omega) (by omega)]; exact m1, laid_ok hL hn lay_s lay_l m2, ?_⟩
    rw [hr _ (by omega) (by omega), hr o (by omega) (by omega), hr (o + 7) (by omega) (by omega), hr (o + 1) (by omega) (by omega)]
    exact m3
  · unfold rp
    rw [hr o (by omega) (by omega), hr _ (by omega) (by omega)]
    exact g3
theorem PW_app {p : Int → Int} {m x : Int} (h : PW p m) (h0 : 0 < m) (hx : 0 ≤ x) (hx2 : x < m) : PW (fun j => if j = m then x else p j) (m + 1) := by
  refine ⟨?_, fun y a b => ?_⟩
  · dsimp only; rw [if_neg (by omega)]; exact h.1
  · dsimp only
    by_cases hy : y = m
    · rw [if_pos hy]; omega
    · rw [if_neg hy]; exact h.2 y a (by omega)
theorem gI_md {I : Nat → Int → Int} {o : Nat} {k p c : Int} (g : gI I o) (hm : I o 2 < 24) (hk : 0 ≤ k ∧ k ≤ 2) (hp : 0 ≤ p ∧ p < I o 2) : gI (mdI I o k p c) o := by
  obtain ⟨⟨m1, m2, m3, m4, m5, m6⟩, g2, g3⟩ := g
  refine ⟨⟨?_, ⟨fun j => ?_, fun j => ?_⟩, ?_, ?_, fun b h0 h1 => ?_, fun c => ?_⟩, miR_eq (md_o (by decide) (by decide) (by decide)) (md_row (by omega) (by omega)) (md_row (by omega) (by omega)) (md_row (by omega) (by omega)) (md_row (by omega) (by omega)) g2, ?_⟩
  · rw [md_o2]; omega
  · rw [md_row (by omega) (by omega)]; exact m2.1 j
  · rw [md_6]; dsimp only
    split
    · omega
    · exact m2.2 j
  · rw [md_2, md_o2]; exact PW_app m3 (by omega) hp.1 hp.2
  · rw [md_2]; dsimp only; rw [if_neg (by omega)]; exact m4
  · rw [md_row (by omega) (by omega), md_o2]
    have := m5 b h0 h1
    omega
  · rw [md_1]; dsimp only
    split
    · exact hk
    · exact m6 c
  · obtain ⟨r1, r2, r3, r4, r5⟩ := g3
    unfold rp
    rw [md_o2, md_o (by decide) (by decide) (by decide), md_o (by decide) (by decide) (by decide), md_o (by decide) (by decide) (by decide), md_o (by decide) (by decide) (by decide), md_o (by decide) (by decide) (by decide), md_o (by decide) (by decide) (by decide), md_row (by omega) (by omega)]
    exact ⟨r1, fun i a b => by have := r2 i a b; omega, by omega, by omega, r5⟩
theorem gI_top {I : Nat → Int → Int} {o : Nat} {t : Int} (g : gI I o) (ht : 0 ≤ t ∧ t < I o 2) : gI (ax_u I o 43 t) o := by
  have hr : ∀ q, q ≠ o → ax_u I o 43 t q = I q := fun q a => axu_row a
  have ho : ∀ k, k ≠ 43 → ax_u I o 43 t o k = I o k := fun k hk => axu_j hk
  refine ⟨miC_eq (ho 2 (by decide)) (hr _ (by omega)) (hr _ (by omega)) (hr _ (by omega)) (hr _ (by omega)) (hr _ (by omega)) g.1, miR_eq (ho _ (by decide)) (hr _ (by omega)) (hr _ (by omega)) (hr _ (by omega)) (hr _ (by omega)) g.2.1, ?_⟩
  obtain ⟨g1, g2, g3, g4⟩ := g.2.2
  unfold rp
  rw [ho 46 (by decide), ho 42 (by decide), ho 41 (by decide), ho 44 (by decide), ho 2 (by decide), ho 47 (by decide), hr _ (by omega), axu_s]
  exact ⟨g1, g2, ht, g4⟩
theorem gI_A {I : Nat → Int → Int} {o : Nat} {q : Int} (g : gI I o) : gI (puA I o q) o := gI_u29 g
theorem gI_pu {I : Nat → Int → Int} {o : Nat} {c q : Int} {L : List Int} (g : gI I o) (hm : I o 2 < 24) (hL : (L.length : Int) ≤ 16) (hn : isLn L) : gI (puF I o c L q) o := by
  have hA := gI_A (q := q) g
  have aO : (puA I o q) o = I o := puA_row (by omega)
  have ht := g.2.2.2.2.1
  unfold puF
  split
  · exact gI_u29 hA
  · split
    · exact gI_u29 (gI_lay hA hL hn)
    · refine gI_u29 (gI_lay (gI_top (gI_md hA (by rw [aO]; exact hm) (g.1.2.2.2.2.2 c) (by rw [aO]; exact ht)) ?_) hL hn)
      rw [md_o2, aO]
      have := g.1.1
      omega
theorem pu_o {I : Nat → Int → Int} {o : Nat} {c q k : Int} {L : List Int} (h1 : k ≠ 1) (h2 : k ≠ 2) (h3 : k ≠ 3) (h4 : k ≠ 43) : puF I o c L q o k = I o k := by
  have aO : (puA I o q) o = I o := puA_row (by omega)
  unfold puF
  split
  · rw [axu_a (by omega), aO]
  · split
    · rw [axu_a (by omega), lay_row (by omega) (by omega), aO]
    · rw [axu_a (by omega), lay_row (by omega) (by omega), axu_j h4, md_o h1 h2 h3, aO]
theorem pu_2 {I : Nat → Int → Int} {o : Nat} {c q : Int} {L : List Int} : I o 2 ≤ puF I o c L q o 2 ∧ puF I o c L q o 2 ≤ I o 2 + 1 := by
  have aO : (puA I o q) o = I o := puA_row (by omega)
  unfold puF
  split
  · rw [axu_a (by omega), aO]; omega
  · split
    · rw [axu_a (by omega), lay_row (by omega) (by omega), aO]; omega
    · rw [axu_a (by omega), lay_row (by omega) (by omega), axu_j (by decide), md_o2, aO]; omega

set_option maxHeartbeats 4000000 in
set_option maxRecDepth 100000 in
theorem m_goesOn {G : ax_G} {T : Nat → Nat} {N : Nat → Int} {I : Nat → Int → Int} {R : Nat → Int → Option Nat} {z o : Nat} (M : axMo T N R o) {zf : Int} (hz : zf = 0 ∨ zf = 1) (g : gI I o) (hroom : (I o 2) + ((I o 46) - (I o 47)) ≤ 24) {res : Int × (Nat → Int → Int)} (hres : res = goF o ((I o 46) - (I o 47)).toNat (1 - zf) (ax_u I o 40 0)) : axEx G YX12_goesOn 7 [vR o, vI zf] T N I R z (fun r1 I1 => r1 = some (vI res.1) ∧ scr res.2 I1 o) := by

  refine ax_enter (by decide) (Nat.le_of_ble_eq_true rfl) (ax_cat rfl) (fun f hC => ?_)
  show axX G f 0 0 _ 0 [vR o, vI zf, vU, vU] [] T N I R z 0 0
  have loop : ∀ (n : Nat) (fl : Int) (σ J : Nat → Int → Int) (c3 : ax_V), gI σ o → σ o 40 = 0 → σ o 2 + (σ o 46 - σ o 47) ≤ 24 → (σ o 46 - σ o 47).toNat = n → scr σ J o → (fl = 0 ∨ fl = 1) → res = goF o n fl σ → axX G f 0 0 (fun r1 T1 N1 I1 R1 z1 => (r1 = some (vI res.1) ∧ scr res.2 I1 o) ∧ T1 = T ∧ N1 = N ∧ R1 = R ∧ z1 = z) 15 [vR o, vI zf, vI fl, c3] [] T N J R z 0 0 := by
    intro n
    induction n with
    | zero =>
      intro fl σ J c3 g h40 hro hn hJ hfl hgo
      have hrp := g.2.2.1
      have j46 : J o 46 = σ o 46 := hJ.2 46 (by unfold sfd; omega)
      have j47 : J o 47 = σ o 47 := hJ.2 47 (by unfold sfd; omega)
      have hb := g.2.2.2.2.2.2.1
      have j41 : J o 41 = σ o 41 := hJ.2 41 (by unfold sfd; omega)
      have j43 : J o 43 = σ o 43 := hJ.2 43 (by unfold sfd; omega)
      refine x_aload_n (pc := 15) hC dX12_goesOn_15 rfl ?_
      refine x_getI (pc := 16) hC gf_X12_271 dX12_goesOn_16 M.1 ?_
      refine x_aload_n (pc := 19) hC dX12_goesOn_19 rfl ?_
      refine x_getI (pc := 20) hC gf_X12_262 dX12_goesOn_20 M.1 ?_
      rw [j46, j47]
      refine x_icmp_ge (pc := 23) hC 114 dX12_goesOn_23 (by decide) (by omega) (by omega) (fun b23 => ?_) (fun b23 => ?_)
      · refine x_aload_n (pc := 114) hC dX12_goesOn_114 rfl ?_
        refine x_getO (pc := 115) hC gf_X12_28 dX12_goesOn_115 M.1 (mo_tips M).1 ?_
        refine x_aload_n (pc := 118) hC dX12_goesOn_118 rfl ?_
        refine x_getI (pc := 119) hC gf_X12_274 dX12_goesOn_119 M.1 ?_
        refine x_aload_n (pc := 122) hC dX12_goesOn_122 rfl ?_
        refine x_getI (pc := 123) hC gf_X12_265 dX12_goesOn_123 M.1 ?_
        rw [j41, j43]
        refine x_iast (pc := 126) hC dX12_goesOn_126 (mo_tips M).2.1 (by omega) (by rw [(mo_tips M).2.2]; omega) ?_
        refine x_iconst (pc := 127) hC dX12_goesOn_127 ?_
        refine x_iret (pc := 128) hC rfl dX12_goesOn_128 ?_
        refine ⟨⟨?_, ?_⟩, rfl, rfl, rfl, rfl⟩
        · rw [hgo]; rfl
        · rw [hgo]; exact hJ.u
      · omega
    | succ n ih =>
      intro fl σ J c3 g h40 hro hn hJ hfl hgo
      have hrp := g.2.2.1
      have j46 : J o 46 = σ o 46 := hJ.2 46 (by unfold sfd; omega)
      have j47 : J o 47 = σ o 47 := hJ.2 47 (by unfold sfd; omega)
      have j40 : J o 40 = 0 := (hJ.2 40 (by unfold sfd; omega)).trans h40
      have j41 : J o 41 = σ o 41 := hJ.2 41 (by unfold sfd; omega)
      have j42 : J o 42 = σ o 42 := hJ.2 42 (by unfold sfd; omega)
      have j43 : J o 43 = σ o 43 := hJ.2 43 (by unfold sfd; omega)
      have j44 : J o 44 = σ o 44 := hJ.2 44 (by unfold sfd; omega)
      have j2 : J o 2 = σ o 2 := hJ.2 2 (by unfold sfd; omega)
      have j28 : J (o + 28) = σ (o + 28) := hJ.1 _ (by omega) (by omega)
      have j29 : J (o + 29) = σ (o + 29) := hJ.1 _ (by omega) (by omega)
      have jp : J (o + 2) = σ (o + 2) := hJ.1 _ (by omega) (by omega)
      have jk : J (o + 1) = σ (o + 1) := hJ.1 _ (by omega) (by omega)
      obtain ⟨-, htd, htop, hon, hbr, hmf⟩ := g.2.2
      have hx0 := htd (σ o 47) hrp.1 (by omega)
      have hx : 0 < goX σ o ∧ goX σ o < σ o 2 := hx0
      have hm := g.1.1
      have hpx := g.1.2.2.1.2 (goX σ o) hx.1 hx.2
      have hmJ : miC J o := hJ.miCe g.1
      have hRJ : miR J o := hJ.miRe g.2.1
      have hkx := g.1.2.2.2.2.2 (goX σ o)
      have hth : bI (thP J o (goX σ o) (σ o 41) (σ o 42)) = bI (thP σ o (goX σ o) (σ o 41) (σ o 42)) := bI_c (hJ.thPe _ _ _)
      simp only [goF] at hgo
      have gLo : (goL σ o) o = fun k => if k = 47 then σ o 47 + 1 else σ o k := by
        funext k
        unfold goL nxt
        by_cases hk : k = 47
        · rw [if_pos hk, hk, axu_s, axu_a (by omega)]
        · rw [if_neg hk, axu_j hk, axu_a (by omega)]
      refine x_aload_n (pc := 15) hC dX12_goesOn_15 rfl ?_
      refine x_getI (pc := 16) hC gf_X12_271 dX12_goesOn_16 M.1 ?_
      refine x_aload_n (pc := 19) hC dX12_goesOn_19 rfl ?_
      refine x_getI (pc := 20) hC gf_X12_262 dX12_goesOn_20 M.1 ?_
      rw [j46, j47]
      refine x_icmp_ge (pc := 23) hC 114 dX12_goesOn_23 (by decide) (by omega) (by omega) (fun b23 => ?_) (fun b23 => ?_)
      · exfalso; omega
      · refine x_aload_n (pc := 26) hC dX12_goesOn_26 rfl ?_
        refine x_getO (pc := 27) hC gf_X12_91 dX12_goesOn_27 M.1 (mo_todo M).1 ?_
        refine x_aload_n (pc := 30) hC dX12_goesOn_30 rfl ?_
        refine x_getI (pc := 31) hC gf_X12_271 dX12_goesOn_31 M.1 ?_
        rw [j47]
        refine x_iald (pc := 34) hC dX12_goesOn_34 (mo_todo M).2.1 (by omega) (by rw [(mo_todo M).2.2]; omega) ?_
        rw [j28]
        refine x_istore_n (pc := 35) hC dX12_goesOn_35 (Nat.le_of_ble_eq_true rfl) ?_
        dsimp only [List.set]
        have hcase : fl = 0 ∨ (fl ≠ 0) := by omega
        have after : ∀ (K : Nat → Int → Int), scr σ K o → ¬ (fl ≠ 0 ∧ thP σ o (goX σ o) (σ o 41) (σ o 42)) → axX G f 0 0 (fun r1 T1 N1 I1 R1 z1 => (r1 = some (vI res.1) ∧ scr res.2 I1 o) ∧ T1 = T ∧ N1 = N ∧ R1 = R ∧ z1 = z) 69 [vR o, vI zf, vI fl, vI (goX σ o)] [] T N K R z 0 0 := by
          intro K hK hnt
          rw [if_neg hnt] at hgo
          have k43 : K o 43 = σ o 43 := hK.2 43 (by unfold sfd; omega)
          have kp : K (o + 2) = σ (o + 2) := hK.1 _ (by omega) (by omega)
          have hlK := (hK.miCe g.1).2.1
          have hRK := hK.miRe g.2.1
          have eM : mrgL (rsL K o) (seg (rwI K o (σ (o + 2) (goX σ o))) 0 (K (o + 6) (σ (o + 2) (goX σ o)))) (seg (rwI K o (σ o 43)) 0 (K (o + 6) (σ o 43))) (seg (rwI K o (goX σ o)) 0 (K (o + 6) (goX σ o))) = goM σ o := by
            rw [hK.rsLe]
            have e : ∀ c, seg (rwI K o c) 0 (K (o + 6) c) = rowL σ o c := fun c => hK.rowLe c
            rw [e, e, e]; rfl
          refine x_aload_n (pc := 69) hC dX12_goesOn_69 rfl ?_
          refine x_aload_n (pc := 70) hC dX12_goesOn_70 rfl ?_
          refine x_iload_n (pc := 71) hC dX12_goesOn_71 rfl ?_
          refine x_aload_n (pc := 72) hC dX12_goesOn_72 rfl ?_
          refine x_getI (pc := 73) hC gf_X12_265 dX12_goesOn_73 M.1 ?_
          rw [k43]
          refine x_mVx (pc := 76) hC cv_X12_283 dX12_goesOn_76 (m_against M hlK hRK (by omega) (by omega) (by rw [kp]; omega)) M.1 rfl (by decide) rfl rfl (Nat.le_of_ble_eq_true rfl) ?_
          rintro v J3 ⟨rfl, hJ3, hM, hM5, hM6, hM7, hM8⟩
          dsimp only [Option.toList]
          rw [kp, mrg_list _ _ _ _ (hlK.2 _).1 (hlK.2 _).1 (hlK.2 _).1, eM] at hM hM5 hM6 hM7 hM8 ⊢
          show axX _ _ _ _ _ _ _ (vI (stp (goM σ o)) :: _) _ _ _ _ _ _ _
          replace hJ3 := hK.tr hJ3
          have hsr := stp_r (goM σ o)
          refine x_putI (pc := 79) hC pf_X12_189 dX12_goesOn_79 M.1 (by decide) ?_
          refine x_aload_n (pc := 82) hC dX12_goesOn_82 rfl ?_
          refine x_getI (pc := 83) hC gf_X12_189 dX12_goesOn_83 M.1 ?_
          rw [axu_s]
          refine x_if_eq (pc := 86) hC 94 dX12_goesOn_86 (by decide) (by omega) (fun b86 => ?_) (fun b86 => ?_)
          · have hst0 : stp (goM σ o) = 0 := by assumption
            rw [hst0, axu_id (by rw [hJ3.2 40 (by unfold sfd; omega)]; exact h40.symm)]
            have q5 : (((goM σ o).1.length : Nat) : Int) ≤ 16 := by
              unfold stp at hst0
              split at hst0
              · omega
              · split at hst0
                · omega
                · omega
            refine x_aload_n (pc := 94) hC dX12_goesOn_94 rfl ?_
            refine x_iload_n (pc := 95) hC dX12_goesOn_95 rfl ?_
            refine x_mV (pc := 96) hC cv_X12_286 dX12_goesOn_96 (m_puts M hM.1 hM.2.1 (hJ3.miCe g.1).2.1 hM6 q5 (by rw [hJ3.2 2 (by unfold sfd; omega)]; omega) (by omega) (by rw [hJ3.1 (o + 1) (by omega) (by omega)]; exact hkx) (by rw [hJ3.2 43 (by unfold sfd; omega)]; omega) (by rw [hJ3.2 44 (by unfold sfd; omega)]; exact hmf)) M.1 rfl (by decide) rfl rfl (Nat.le_of_ble_eq_true rfl) ?_
            refine x_iconst (pc := 99) hC dX12_goesOn_99 ?_
            refine x_istore_n (pc := 100) hC dX12_goesOn_100 (Nat.le_of_ble_eq_true rfl) ?_
            dsimp only [List.set]
            refine x_aload_n (pc := 101) hC dX12_goesOn_101 rfl ?_
            refine x_dup (pc := 102) hC dX12_goesOn_102 rfl ?_
            refine x_getI (pc := 103) hC gf_X12_271 dX12_goesOn_103 M.1 ?_
            refine x_iconst (pc := 106) hC dX12_goesOn_106 ?_
            refine x_iadd (pc := 107) hC dX12_goesOn_107 ?_
            refine x_putI (pc := 108) hC pf_X12_271 dX12_goesOn_108 M.1 (by decide) ?_
            refine x_goto (pc := 111) hC 15 dX12_goesOn_111 (by decide) ?_
            rw [if_pos hst0] at hgo
            have p46 : puF σ o (goX σ o) (goM σ o).1 (goM σ o).2.1 o 46 = σ o 46 := pu_o (by decide) (by decide) (by decide) (by decide)
            have p47 : puF σ o (goX σ o) (goM σ o).1 (goM σ o).2.1 o 47 = σ o 47 := pu_o (by decide) (by decide) (by decide) (by decide)
            have p40 : puF σ o (goX σ o) (goM σ o).1 (goM σ o).2.1 o 40 = σ o 40 := pu_o (by decide) (by decide) (by decide) (by decide)
            have p2 := pu_2 (I := σ) (o := o) (c := goX σ o) (q := (goM σ o).2.1) (L := (goM σ o).1)
            refine ih 1 (goP σ o) _ _ (gI_nxt (gI_pu g (by omega) q5 hM6) (by rw [p46, p47]; omega)) (by unfold goP nxt; rw [axu_j (by decide), p40]; exact h40) (by unfold goP nxt; rw [axu_j (by decide), axu_j (by decide), axu_s, p46, p47]; omega) (by unfold goP nxt; rw [axu_j (by decide), axu_s, p46, p47]; omega) ?_ (Or.inr rfl) hgo
            exact (hJ3.pu _ _ _).nxte
          · refine x_aload_n (pc := 89) hC dX12_goesOn_89 rfl ?_
            refine x_getI (pc := 90) hC gf_X12_189 dX12_goesOn_90 M.1 ?_
            rw [axu_s]
            refine x_iret (pc := 93) hC rfl dX12_goesOn_93 ?_
            refine ⟨⟨?_, ?_⟩, rfl, rfl, rfl, rfl⟩
            · rw [hgo, if_neg (by assumption)]
            · rw [hgo, if_neg (by assumption)]; exact hJ3.u
        refine x_iload_n (pc := 36) hC dX12_goesOn_36 rfl ?_
        refine x_if_eq (pc := 37) hC 69 dX12_goesOn_37 (by decide) (by omega) (fun b37 => ?_) (fun b37 => ?_)
        · first
          | exact after _ hJ (fun h => h.1 (by omega))
          | exact after _ hJ2 (fun h => by contradiction)
          | exact after _ hJ2 (fun h => absurd h.2 (by assumption))
        · refine x_aload_n (pc := 40) hC dX12_goesOn_40 rfl ?_
          refine x_iload_n (pc := 41) hC dX12_goesOn_41 rfl ?_
          refine x_aload_n (pc := 42) hC dX12_goesOn_42 rfl ?_
          refine x_getI (pc := 43) hC gf_X12_274 dX12_goesOn_43 M.1 ?_
          refine x_aload_n (pc := 46) hC dX12_goesOn_46 rfl ?_
          refine x_getI (pc := 47) hC gf_X12_277 dX12_goesOn_47 M.1 ?_
          rw [j41, j42]
          refine x_mVx (pc := 50) hC cv_X12_280 dX12_goesOn_50 (m_isThere M hmJ (by rw [j2]; omega) hbr (by rw [j2]; exact hon)) M.1 rfl (by decide) rfl rfl (Nat.le_of_ble_eq_true rfl) ?_
          rintro v J2 ⟨rfl, hJ2⟩
          dsimp only [Option.toList]
          rw [hth]
          show axX _ _ _ _ _ _ _ (vI _ :: []) _ _ _ _ _ _ _
          replace hJ2 := hJ.tr hJ2
          have i29 : J2 (o + 29) = σ (o + 29) := hJ2.1 _ (by omega) (by omega)
          have i47 : J2 o 47 = σ o 47 := hJ2.2 47 (by unfold sfd; omega)
          refine x_ifB_eq (pc := 53) hC 69 dX12_goesOn_53 (by decide) (fun b53 => ?_) (fun b53 => ?_)
          · first
            | exact after _ hJ (fun h => h.1 (by omega))
            | exact after _ hJ2 (fun h => by contradiction)
            | exact after _ hJ2 (fun h => absurd h.2 (by assumption))
          · refine x_aload_n (pc := 56) hC dX12_goesOn_56 rfl ?_
            refine x_getO (pc := 57) hC gf_X12_94 dX12_goesOn_57 M.1 (mo_done M).1 ?_
            refine x_iconst (pc := 60) hC dX12_goesOn_60 ?_
            refine x_dup2 (pc := 61) hC dX12_goesOn_61 rfl rfl ?_
            refine x_iald (pc := 62) hC dX12_goesOn_62 (mo_done M).2.1 (by omega) (by rw [(mo_done M).2.2]; omega) ?_
            refine x_iconst (pc := 63) hC dX12_goesOn_63 ?_
            refine x_iadd (pc := 64) hC dX12_goesOn_64 ?_
            refine x_iast (pc := 65) hC dX12_goesOn_65 (mo_done M).2.1 (by omega) (by rw [(mo_done M).2.2]; omega) ?_
            refine x_goto (pc := 66) hC 99 dX12_goesOn_66 (by decide) ?_
            skip
            refine x_iconst (pc := 99) hC dX12_goesOn_99 ?_
            refine x_istore_n (pc := 100) hC dX12_goesOn_100 (Nat.le_of_ble_eq_true rfl) ?_
            dsimp only [List.set]
            refine x_aload_n (pc := 101) hC dX12_goesOn_101 rfl ?_
            refine x_dup (pc := 102) hC dX12_goesOn_102 rfl ?_
            refine x_getI (pc := 103) hC gf_X12_271 dX12_goesOn_103 M.1 ?_
            refine x_iconst (pc := 106) hC dX12_goesOn_106 ?_
            refine x_iadd (pc := 107) hC dX12_goesOn_107 ?_
            refine x_putI (pc := 108) hC pf_X12_271 dX12_goesOn_108 M.1 (by decide) ?_
            refine x_goto (pc := 111) hC 15 dX12_goesOn_111 (by decide) ?_
            rw [i29, axu_a (by omega), i47]
            rw [if_pos ⟨by omega, by assumption⟩] at hgo
            refine ih 1 (goL σ o) _ _ (gI_nxt (gI_u29 g) (by rw [axu_a (by omega), axu_a (by omega)]; omega)) (by rw [gLo]; exact h40) (by rw [gLo]; dsimp only; rw [if_neg (by decide), if_neg (by decide), if_pos rfl]; omega) (by rw [gLo]; dsimp only; rw [if_neg (by decide), if_pos rfl]; omega) ?_ (Or.inr rfl) hgo
            unfold goL nxt
            rw [axu_a (by omega)]
            exact hJ2.u.u
  refine x_iload_n (pc := 0) hC dX12_goesOn_0 rfl ?_
  refine x_if_ne (pc := 1) hC 8 dX12_goesOn_1 (by decide) (by omega) (fun b1 => ?_) (fun b1 => ?_)
  · refine x_iconst (pc := 8) hC dX12_goesOn_8 ?_
    refine x_istore_n (pc := 9) hC dX12_goesOn_9 (Nat.le_of_ble_eq_true rfl) ?_
    dsimp only [List.set]
    refine x_aload_n (pc := 10) hC dX12_goesOn_10 rfl ?_
    refine x_iconst (pc := 11) hC dX12_goesOn_11 ?_
    refine x_putI (pc := 12) hC pf_X12_189 dX12_goesOn_12 M.1 (by decide) ?_
    refine loop _ _ (ax_u I o 40 0) _ _ ⟨miC_eq (axu_j (by decide)) (axu_row (by omega)) (axu_row (by omega)) (axu_row (by omega)) (axu_row (by omega)) (axu_row (by omega)) g.1, miR_eq (axu_j (by decide)) (axu_row (by omega)) (axu_row (by omega)) (axu_row (by omega)) (axu_row (by omega)) g.2.1, ?_⟩ axu_s (by rw [axu_j (by decide), axu_j (by decide), axu_j (by decide)]; exact hroom) rfl scr.rf (by omega) ?_
    · have := g.2.2
      unfold rp at *
      rw [axu_j (show (47 : Int) ≠ 40 by decide), axu_j (show (46 : Int) ≠ 40 by decide), axu_j (show (43 : Int) ≠ 40 by decide), axu_j (show (42 : Int) ≠ 40 by decide), axu_j (show (41 : Int) ≠ 40 by decide), axu_j (show (44 : Int) ≠ 40 by decide), axu_j (show (2 : Int) ≠ 40 by decide), axu_row (by omega)]
      exact this
    · rw [hres, axu_j (by decide), axu_j (by decide)]
      first
      | (rw [show (1 : Int) - zf = 1 by omega]; done)
      | (rw [show (1 : Int) - zf = 0 by omega]; done)
  · refine x_iconst (pc := 4) hC dX12_goesOn_4 ?_
    refine x_goto (pc := 5) hC 9 dX12_goesOn_5 (by decide) ?_
    refine x_istore_n (pc := 9) hC dX12_goesOn_9 (Nat.le_of_ble_eq_true rfl) ?_
    dsimp only [List.set]
    refine x_aload_n (pc := 10) hC dX12_goesOn_10 rfl ?_
    refine x_iconst (pc := 11) hC dX12_goesOn_11 ?_
    refine x_putI (pc := 12) hC pf_X12_189 dX12_goesOn_12 M.1 (by decide) ?_
    refine loop _ _ (ax_u I o 40 0) _ _ ⟨miC_eq (axu_j (by decide)) (axu_row (by omega)) (axu_row (by omega)) (axu_row (by omega)) (axu_row (by omega)) (axu_row (by omega)) g.1, miR_eq (axu_j (by decide)) (axu_row (by omega)) (axu_row (by omega)) (axu_row (by omega)) (axu_row (by omega)) g.2.1, ?_⟩ axu_s (by rw [axu_j (by decide), axu_j (by decide), axu_j (by decide)]; exact hroom) rfl scr.rf (by omega) ?_
    · have := g.2.2
      unfold rp at *
      rw [axu_j (show (47 : Int) ≠ 40 by decide), axu_j (show (46 : Int) ≠ 40 by decide), axu_j (show (43 : Int) ≠ 40 by decide), axu_j (show (42 : Int) ≠ 40 by decide), axu_j (show (41 : Int) ≠ 40 by decide), axu_j (show (44 : Int) ≠ 40 by decide), axu_j (show (2 : Int) ≠ 40 by decide), axu_row (by omega)]
      exact this
    · rw [hres, axu_j (by decide), axu_j (by decide)]
      first
      | (rw [show (1 : Int) - zf = 1 by omega]; done)
      | (rw [show (1 : Int) - zf = 0 by omega]; done)

