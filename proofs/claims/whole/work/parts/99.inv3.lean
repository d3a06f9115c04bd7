/-! WHAT HOLDS BETWEEN CALLS: commit, anew, settle -/
theorem iv_an {σ : Nat → Int → Int} {o : Nat} {n : Int} (h : INV σ o n) : INV (an σ o).2 o (n + 25) := by
  unfold an
  by_cases h0 : σ o 40 = 0
  · rw [if_pos h0]
    have hC := iv_C h
    have hS := iv_S h
    obtain ⟨Y, hY⟩ : ∃ Y, Y = ax_u σ o 2 0 := ⟨_, rfl⟩
    have yo : ∀ k, k ≠ 2 → Y o k = σ o k := fun k hk => by rw [hY, axu_j hk]
    have y2 : Y o 2 = 0 := by rw [hY, axu_s]
    have yq : ∀ q, q ≠ o → Y q = σ q := fun q hq => by rw [hY, axu_row hq]
    obtain ⟨X, hX⟩ : ∃ X, X = anI σ o := ⟨_, rfl⟩
    show INV (anI σ o) o (n + 25)
    rw [← hX]
    unfold anI at hX
    rw [← hY] at hX
    have xr : ∀ q, q ≠ o → q ≠ o + 7 → q ≠ o + 29 → X q = mdI Y o 0 (-9) (-9) q := fun q q1 q2 q3 => by rw [hX, axf_row q3, axu_row q1, axf_row q2]
    have xo : ∀ k, k ≠ 30 → X o k = mdI Y o 0 (-9) (-9) o k := fun k hk => by rw [hX, axf_a (by omega), axu_j hk, axf_a (by omega)]
    have x30 : X o 30 = 0 := by rw [hX, axf_a (by omega), axu_s]
    have x2 : X o 2 = 1 := by rw [xo 2 (by decide), md_o2, y2]; rfl
    have x3 : X o 3 = σ o 3 + 1 := by rw [xo 3 (by decide), md_o3, yo 3 (by decide)]
    have x40 : X o 40 = 0 := by rw [xo 40 (by decide), md_o (by decide) (by decide) (by decide), yo 40 (by decide), h0]
    have x35 : X o 35 = σ o 35 := by rw [xo 35 (by decide), md_o (by decide) (by decide) (by decide), yo 35 (by decide)]
    have xq : ∀ q, q ≠ o → q ≠ o + 7 → q ≠ o + 29 → (q = o + 5 ∨ o + 6 < q) → X q = σ q := fun q q1 q2 q3 q4 => by rw [xr q q1 q2 q3, md_row q1 (by omega), yq q q1]
    have x6 : X (o + 6) = fun j => if j = 0 then 0 else σ (o + 6) j := by rw [xr _ (by omega) (by omega) (by omega), md_6, y2, yq _ (by omega)]
    have x22 : X (o + 2) = fun j => if j = 0 then -9 else σ (o + 2) j := by rw [xr _ (by omega) (by omega) (by omega), md_2, y2, yq _ (by omega)]
    have x1 : X (o + 1) = fun j => if j = 0 then 0 else σ (o + 1) j := by rw [xr _ (by omega) (by omega) (by omega), md_1, y2, yq _ (by omega)]
    have x4 : X (o + 4) = fun j => if j = 0 then σ o 3 + 1 else σ (o + 4) j := by rw [xr _ (by omega) (by omega) (by omega), md_4, y2, yo 3 (by decide), yq (o + 4) (by omega)]
    have x7 : ∀ b, 0 ≤ b → b < 4 → X (o + 7) b = 0 := fun b b0 b1 => by rw [hX, axf_a (by omega), axu_a (by omega), axf_in (by omega) (by omega)]
    have hn := iv_n h
    refine ⟨⟨by rw [x2]; omega, ⟨?_, fun j => ?_⟩, ?_, ?_, fun b b0 b1 => ?_, fun c => ?_⟩, miR_rs (by rw [x30]; omega) ?_ ?_ ?_ ?_ ?_, ?_, miK_fr (iv_K h) (xq _ (by omega) (by omega) (by omega) (by omega)) (xq _ (by omega) (by omega) (by omega) (by omega)) (xq _ (by omega) (by omega) (by omega) (by omega)) (xq _ (by omega) (by omega) (by omega) (by omega)) x35, ?_, by rw [x40]; omega, fun h9 => absurd x40 h9, by rw [x3]; omega⟩
    · rw [xq _ (by omega) (by omega) (by omega) (by omega)]; exact hC.2.1.1
    · rw [x6]; dsimp only
      split
      · omega
      · exact hC.2.1.2 j
    · rw [x22, x2]
      refine ⟨?_, fun x x0 x9 => by omega⟩
      dsimp only; rw [if_pos rfl]; omega
    · rw [x22]; dsimp only; rw [if_pos rfl]
    · rw [x7 b b0 b1, x2]; omega
    · rw [x1]; dsimp only
      split
      · omega
      · exact hC.2.2.2.2.2 c
    · rw [xq _ (by omega) (by omega) (by omega) (by omega)]; exact (iv_R h).2.1
    · rw [xq _ (by omega) (by omega) (by omega) (by omega)]; exact (iv_R h).2.2.1
    · rw [xq _ (by omega) (by omega) (by omega) (by omega)]; exact (iv_R h).2.2.2.1
    · rw [xq _ (by omega) (by omega) (by omega) (by omega)]; exact (iv_R h).2.2.2.2.1
    · intro p hp
      unfold rsL at hp
      rw [x30] at hp
      cases hp
    · obtain ⟨s1, s2, s3, s4, s5, s6, s7⟩ := hS
      refine ⟨?_, ?_, ?_, ?_, ?_, fun s => ?_, fun c => ?_⟩
      · rw [xq _ (by omega) (by omega) (by omega) (by omega)]; exact s1
      · rw [xq _ (by omega) (by omega) (by omega) (by omega)]; exact s2
      · rw [xq _ (by omega) (by omega) (by omega) (by omega)]; exact s3
      · rw [xq _ (by omega) (by omega) (by omega) (by omega)]; exact s4
      · rw [xq _ (by omega) (by omega) (by omega) (by omega)]; exact s5
      · rw [xq _ (by omega) (by omega) (by omega) (by omega), x3]
        have := s6 s
        omega
      · rw [x4, x3]; dsimp only
        have := s7 c
        split
        · have := s7 0; omega
        · omega
    · rw [x6]; dsimp only; rw [if_pos rfl]
  · rw [if_neg h0]; exact iv_up h (by omega)
theorem iv_cm {σ : Nat → Int → Int} {o : Nat} {n b k s : Int} (h : INV σ o n) : INV (cm σ o b k s).2 o (n + 25) := by
  unfold cm
  split
  · rename_i hbs
    split
    · rename_i hk
      split
      · rename_i h0
        split
        · split
          · exact iv_up (iv_f (iv_f h)) (by omega)
          · split
            · rename_i hal
              split
              · exact iv_up (iv_f h) (by omega)
              · rename_i h24
                have hC := iv_C h
                have hS := iv_S h
                have hm := hC.1
                have hn := iv_n h
                obtain ⟨al1, al2⟩ := hal
                have hsz := hS.2.1 s
                have hln : ((slL σ o s).length : Int) = σ (o + 32) s := by unfold slL; rw [seg_len]; omega
                rw [hln] at al1
                obtain ⟨Y, hY⟩ : ∃ Y, Y = ax_u σ o 0 0 := ⟨_, rfl⟩
                have yo : ∀ k, k ≠ 0 → Y o k = σ o k := fun k hk => by rw [hY, axu_j hk]
                have yq : ∀ q, q ≠ o → Y q = σ q := fun q hq => by rw [hY, axu_row hq]
                show INV (ax_u (ax_f (ax_u (mdI (ax_u σ o 0 0) o k (σ (o + 7) b) (-9)) (o + 6) (σ o 2) (σ (o + 32) s)) (o + 5) (16 * σ o 2) (σ (o + 32) s) (fun j => σ (o + 33) (24 * s + (j - 16 * σ o 2)))) (o + 7) b (σ o 2)) o (n + 25)
                rw [← hY]
                obtain ⟨X, hX⟩ : ∃ X, X = ax_u (ax_f (ax_u (mdI Y o k (σ (o + 7) b) (-9)) (o + 6) (σ o 2) (σ (o + 32) s)) (o + 5) (16 * σ o 2) (σ (o + 32) s) (fun j => σ (o + 33) (24 * s + (j - 16 * σ o 2)))) (o + 7) b (σ o 2) := ⟨_, rfl⟩
                rw [← hX]
                have y2 : Y o 2 = σ o 2 := yo 2 (by decide)
                have xr : ∀ q, q ≠ o + 7 → q ≠ o + 5 → q ≠ o + 6 → X q = mdI Y o k (σ (o + 7) b) (-9) q := fun q q1 q2 q3 => by rw [hX, axu_row q1, axf_row q2, axu_row q3]
                have xo : ∀ j, j ≠ 0 → j ≠ 1 → j ≠ 2 → j ≠ 3 → X o j = σ o j := fun j j0 j1 j2 j3 => by rw [xr o (by omega) (by omega) (by omega), md_o j1 j2 j3, yo j j0]
                have x2 : X o 2 = σ o 2 + 1 := by rw [xr o (by omega) (by omega) (by omega), md_o2, y2]
                have x3 : X o 3 = σ o 3 + 1 := by rw [xr o (by omega) (by omega) (by omega), md_o3, yo 3 (by decide)]
                have xq : ∀ q, q ≠ o → q ≠ o + 7 → o + 6 < q → X q = σ q := fun q q1 q2 q3 => by rw [xr q q2 (by omega) (by omega), md_row q1 (by omega), yq q q1]
                have x6 : X (o + 6) = fun j => if j = σ o 2 then σ (o + 32) s else σ (o + 6) j := by
                  rw [hX, axu_row (by omega), axf_row (by omega)]
                  funext j
                  by_cases e1 : j = σ o 2
                  · rw [e1, axu_s, if_pos rfl]
                  · rw [axu_j e1, md_6, y2, yq _ (by omega)]
                    show (if j = σ o 2 then 0 else σ (o + 6) j) = _
                    rw [if_neg e1, if_neg e1]
                have x22 : X (o + 2) = fun j => if j = σ o 2 then σ (o + 7) b else σ (o + 2) j := by rw [xr _ (by omega) (by omega) (by omega), md_2, y2, yq _ (by omega)]
                have x1 : X (o + 1) = fun j => if j = σ o 2 then k else σ (o + 1) j := by rw [xr _ (by omega) (by omega) (by omega), md_1, y2, yq _ (by omega)]
                have x4 : X (o + 4) = fun j => if j = σ o 2 then σ o 3 + 1 else σ (o + 4) j := by rw [xr _ (by omega) (by omega) (by omega), md_4, y2, yo 3 (by decide), yq (o + 4) (by omega)]
                have tp := hC.2.2.2.2.1
                refine ⟨⟨by rw [x2]; omega, ⟨?_, fun j => ?_⟩, ?_, ?_, fun d d0 d1 => ?_, fun c => ?_⟩, miR_eq (xo 30 (by decide) (by decide) (by decide) (by decide)) (xq _ (by omega) (by omega) (by omega)) (xq _ (by omega) (by omega) (by omega)) (xq _ (by omega) (by omega) (by omega)) (xq _ (by omega) (by omega) (by omega)) (iv_R h), ?_, miK_fr (iv_K h) (xq _ (by omega) (by omega) (by omega)) (xq _ (by omega) (by omega) (by omega)) (xq _ (by omega) (by omega) (by omega)) (xq _ (by omega) (by omega) (by omega)) (xo 35 (by decide) (by decide) (by decide) (by decide)), ?_, by rw [xo 40 (by decide) (by decide) (by decide) (by decide)]; exact iv_40 h, fun h9 => absurd ((xo 40 (by decide) (by decide) (by decide) (by decide)).trans h0) h9, by rw [x3]; omega⟩
                · rw [hX, axu_row (by omega)]
                  refine f_rg (p := fun v => 0 ≤ v ∧ v < 100) ?_ (fun i i0 i1 => ?_)
                  · rw [axu_row (by omega), md_row (by omega) (by omega), yq _ (by omega)]; exact hC.2.1.1
                  · refine al2 _ ?_
                    unfold slL
                    exact seg_mem.mpr ⟨24 * s + (i - 16 * σ o 2), by omega, by omega, rfl⟩
                · rw [x6]; dsimp only
                  split
                  · omega
                  · exact hC.2.1.2 j
                · rw [x22, x2]; exact PW_app hC.2.2.1 (by omega) (tp b hbs.1.1 hbs.1.2).1 (tp b hbs.1.1 hbs.1.2).2
                · rw [x22]; dsimp only; rw [if_neg (by omega)]; exact hC.2.2.2.1
                · rw [x2]
                  by_cases e1 : d = b
                  · rw [hX, e1, axu_s]; omega
                  · rw [hX, axu_j e1, axf_a (by omega), axu_a (by omega), md_row (by omega) (by omega), yq _ (by omega)]
                    have := tp d d0 d1
                    omega
                · rw [x1]; dsimp only
                  split
                  · exact hk
                  · exact hC.2.2.2.2.2 c
                · obtain ⟨s1, s2, s3, s4, s5, s6, s7⟩ := hS
                  refine ⟨?_, ?_, ?_, ?_, ?_, fun t => ?_, fun c => ?_⟩
                  · rw [xq _ (by omega) (by omega) (by omega)]; exact s1
                  · rw [xq _ (by omega) (by omega) (by omega)]; exact s2
                  · rw [xq _ (by omega) (by omega) (by omega)]; exact s3
                  · rw [xq _ (by omega) (by omega) (by omega)]; exact s4
                  · rw [xq _ (by omega) (by omega) (by omega)]; exact s5
                  · rw [xq _ (by omega) (by omega) (by omega), x3]
                    have := s6 t
                    omega
                  · rw [x4, x3]; dsimp only
                    have := s7 c
                    split
                    · have := s7 0; omega
                    · omega
                · rw [x6]; dsimp only; rw [if_neg (by omega)]; exact iv_0 h
            · exact iv_up (iv_f h) (by omega)
        · exact iv_up (iv_f (iv_f h)) (by omega)
      · exact iv_up (iv_f h) (by omega)
    · exact iv_up (iv_f h) (by omega)
  · exact iv_up (iv_f h) (by omega)
theorem cg_in {σ : Nat → Int → Int} {o : Nat} {k : Int} (hC : miC σ o) (hk : opP σ o k) : (cgB σ o k).length ≤ 16 ∧ (cgO σ o k).length ≤ 16 ∧ (cgT σ o k).length ≤ 16 := by
  have hg : cgG σ o k ∈ (goM σ o).2.2 := by
    have hk2 := hk.2
    unfold cgG
    rw [List.getD_eq_getElem?_getD, List.getElem?_eq_getElem (by omega)]
    exact List.getElem_mem _
  obtain ⟨⟨g1, g2, g3⟩, ⟨g4, g5⟩, g6, g7⟩ := mrgL_in (show cgG σ o k ∈ (mrgL (rsL σ o) (rowL σ o (σ (o + 2) (goX σ o))) (rowL σ o (σ o 43)) (rowL σ o (goX σ o))).2.2 from hg)
  rw [rowL_len hC.2.1] at g3 g5 g7
  have l1 := hC.2.1.2 (σ (o + 2) (goX σ o))
  have l2 := hC.2.1.2 (σ o 43)
  have l3 := hC.2.1.2 (goX σ o)
  unfold cgB cgO cgT
  rw [seg_len, seg_len, seg_len]
  exact ⟨by omega, by omega, by omega⟩
theorem cs_ok {B X Y row : List Int} (hl : B.length + X.length + Y.length ≤ 48) (h6 : row.length ≤ 6) (hr : ∀ v ∈ row, 0 ≤ v ∧ v < 100) : rwOk (cShape B X Y).1 (row.map (stv (cShape B X Y).2)) ∧ (∀ v ∈ (cShape B X Y).1, 0 ≤ v ∧ v ≤ 48) := by
  have key : ∀ B X Y : List Int, B.length + X.length + Y.length ≤ 48 → rwOk (shpSeq B X Y).1 (row.map (stv (shpSeq B X Y).2)) := fun B X Y h1 => by
    refine ⟨by rw [List.length_map]; exact h6, B, X, Y, h1, rfl, fun v hv => ?_⟩
    obtain ⟨u, u1, u2⟩ := List.mem_map.mp hv
    rw [← u2]
    unfold stv
    have := hr u u1
    split
    · rename_i h9
      have := nix_lt _ _ h9
      exact Or.inl ⟨by omega, by omega⟩
    · exact Or.inr ⟨by omega, by omega⟩
  unfold cShape
  split
  · exact ⟨key _ _ _ hl, shpSeq_r hl⟩
  · exact ⟨key _ _ _ (by omega), shpSeq_r (by omega)⟩
theorem iv_stl {σ : Nat → Int → Int} {o : Nat} {n k s : Int} (h : INV σ o n) : INV (stl σ o k s).2 o n := by
  unfold stl
  split
  · rename_i hks
    split
    · split
      · exact iv_f (iv_f h)
      · split
        · rename_i hal
          split
          · exact iv_f h
          · rename_i h8
            obtain ⟨al1, al2⟩ := hal
            have hC := iv_C h
            have hS := iv_S h
            have hsz := hS.2.1 s
            have hln : ((slL σ o s).length : Int) = σ (o + 32) s := by unfold slL; rw [seg_len]; omega
            obtain ⟨l1, l2, l3⟩ := cg_in hC hks.1
            obtain ⟨w1, w2⟩ := cs_ok (B := cgB σ o k) (X := cgO σ o k) (Y := cgT σ o k) (row := slL σ o s) (by omega) (by omega) al2
            have wl := (cShape_l (cgB σ o k) (cgO σ o k) (cgT σ o k)).1
            obtain ⟨c, hc⟩ : ∃ c, c = cShape (cgB σ o k) (cgO σ o k) (cgT σ o k) := ⟨_, rfl⟩
            show INV (stM (ax_u σ o 0 0) o s (cShape (cgB σ o k) (cgO σ o k) (cgT σ o k))) o n
            rw [← hc] at w1 w2 wl ⊢
            have hI0 := iv_f (v := 0) h
            obtain ⟨Y, hY⟩ : ∃ Y, Y = ax_u σ o 0 0 := ⟨_, rfl⟩
            rw [← hY] at hI0 ⊢
            have y30 : Y o 30 = σ o 30 := by rw [hY, axu_j (by decide)]
            have yq : ∀ q, q ≠ o → Y q = σ q := fun q hq => by rw [hY, axu_row hq]
            have hR := iv_R hI0
            have r30 := hR.1
            have ysl : slL Y o s = slL σ o s := by unfold slL; rw [yq _ (by omega), yq _ (by omega)]
            obtain ⟨X, hX⟩ : ∃ X, X = stM Y o s c := ⟨_, rfl⟩
            obtain ⟨e1, e2, e3, e4⟩ := st_rs hR (by omega) (by omega) (by rw [yq _ (by omega)]; omega) hX
            rw [← hX]
            unfold stM at hX
            have q1 : ∀ i, 51 * Y o 30 ≤ i → i < 51 * Y o 30 + (c.1.length : Int) → 0 ≤ lf c.1 (i - 51 * Y o 30) ∧ lf c.1 (i - 51 * Y o 30) < 100 := fun i i0 i1 => by
              have := w2 _ (lf_mem (L := c.1) (i := i - 51 * Y o 30) (by omega) (by omega))
              omega
            have q2 : ∀ i, 6 * Y o 30 ≤ i → i < 6 * Y o 30 + Y (o + 32) s → 0 ≤ lf ((slL Y o s).map (stv c.2)) (i - 6 * Y o 30) ∧ lf ((slL Y o s).map (stv c.2)) (i - 6 * Y o 30) < 200 := fun i i0 i1 => by
              rw [yq (o + 32) (by omega)] at i1
              rw [ysl]
              have m1 := lf_mem (L := (slL σ o s).map (stv c.2)) (i := i - 6 * Y o 30) (by omega) (by rw [List.length_map]; omega)
              obtain ⟨r1, B9, X9, Y9, r2, r3, r4⟩ := w1
              have l9 := shpSeq_l B9 X9 Y9
              rcases r4 _ m1 with m2 | m2 <;> omega
            refine iv_r hI0 (miR_rs (by rw [e2]; omega) ?_ ?_ ?_ ?_ ?_) (fun j _ j2 => e3 j j2) e4
            · rw [hX, axu_row (by omega), axf_row (by omega), axu_row (by omega)]
              refine f_rg (p := fun v => 0 ≤ v ∧ v < 100) ?_ q1
              rw [axu_row (by omega)]; exact hR.2.1
            · rw [hX, axu_row (by omega), axf_row (by omega), axu_row (by omega), axf_row (by omega)]
              exact u_rg (p := fun v => 0 ≤ v ∧ v ≤ 51) hR.2.2.1 (by omega)
            · rw [hX, axu_row (by omega)]
              refine f_rg (p := fun v => 0 ≤ v ∧ v < 200) ?_ q2
              rw [axu_row (by omega), axf_row (by omega), axu_row (by omega)]; exact hR.2.2.2.1
            · rw [hX, axu_row (by omega), axf_row (by omega)]
              refine u_rg (p := fun v => 0 ≤ v ∧ v ≤ 6) ?_ (by rw [yq _ (by omega)]; omega)
              rw [axf_row (by omega), axu_row (by omega)]; exact hR.2.2.2.2.1
            · rw [e1, ysl]
              intro p hp
              rcases List.mem_append.mp hp with h9 | h9
              · exact rs_ok hR p h9
              · rw [List.mem_singleton.mp h9]; exact w1
        · exact iv_f h
    · exact iv_f (iv_f h)
  · exact iv_f h

