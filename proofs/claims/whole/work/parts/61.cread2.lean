/-! THE CLASS: calls that only read, 2 -/
theorem take_fold {F : Int → Int → Int} {s v : Int} {L : List Int} {k : Nat} (h : L[k]? = some v) : (L.take (k + 1)).foldl F s = F ((L.take k).foldl F s) v := by
  rw [List.take_add_one, h, List.foldl_append]
  rfl
theorem ptS_at {T : Nat → Nat} {N : Nat → Int} {I : Nat → Int → Int} {R : Nat → Int → Option Nat} {p : Nat} {L : List Int} (h : ptS T N I R p L) {k : Nat} (hk : k < L.length) : L[k]? = some (atO L (k : Int)) := by
  unfold atO
  rw [if_pos (by omega), List.getD_eq_getElem?_getD, show ((k : Int).toNat) = k by omega, List.getElem?_eq_getElem hk]
  rfl

set_option maxHeartbeats 4000000 in
set_option maxRecDepth 100000 in
theorem c_hashPart {G : ax_G} {T : Nat → Nat} {N : Nat → Int} {I : Nat → Int → Int} {R : Nat → Int → Option Nat} {z : Nat} {a o p : Nat} {b : Int} {L : List Int} (hx : fxS G T N R z a o) (hs : ∀ j : Nat, j < 100 → I (a + 176) j = sgn j) (hp : ptS T N I R p L) (hL : isLn L) : axE G YX11_hashPart 1 [vR a, vI b, vR p] T N I R z (some (vI (hsl b L))) I := by

  refine ax_enter (by decide) (Nat.le_of_ble_eq_true rfl) (ax_cat rfl) (fun f hC => ?_)
  show axX G f 0 0 _ 0 [vR a, vI b, vR p, vU, vU, vU] [] T N I R z 0 0
  have hlen := ptS_len hp
  have hl16 : (L.length : Int) ≤ 100000 := by
    obtain ⟨-, r, -, -, h3, h4, h5, h6, -⟩ := hp
    omega
  have loop : ∀ (n k : Nat) (c5 : ax_V), L.length - k ≤ n → k ≤ L.length → axX G f 0 0 (fun r1 T1 N1 I1 R1 z1 => r1 = some (vI (hsl b L)) ∧ T1 = T ∧ N1 = N ∧ I1 = I ∧ R1 = R ∧ z1 = z) 13 [vR a, vI b, vR p, vI ((L.take k).foldl (fun h x => 31 * h + sgn x.toNat) (31 * b + L.length)), vI (k : Int), c5] [] T N I R z 0 0 := by
    intro n
    induction n with
    | zero =>
      intro k c5 hn hk
      refine x_iload (pc := 13) hC dX11_hashPart_13 rfl ?_
      refine x_aload_n (pc := 15) hC dX11_hashPart_15 rfl ?_
      refine x_getI (pc := 16) hC gf_X11_163 dX11_hashPart_16 hp.1 ?_
      rw [hlen]
      refine x_icmp_ge (pc := 19) hC 65 dX11_hashPart_19 (by decide) (by omega) (by omega) (fun b19 => ?_) (fun b19 => ?_)
      · refine x_iload_n (pc := 65) hC dX11_hashPart_65 rfl ?_
        refine x_iret (pc := 66) hC rfl dX11_hashPart_66 ?_
        have hk9 : k = L.length := by omega
        rw [hk9, List.take_length]
        exact ⟨rfl, rfl, rfl, rfl, rfl, rfl⟩
      · omega
    | succ n ih =>
      intro k c5 hn hk
      refine x_iload (pc := 13) hC dX11_hashPart_13 rfl ?_
      refine x_aload_n (pc := 15) hC dX11_hashPart_15 rfl ?_
      refine x_getI (pc := 16) hC gf_X11_163 dX11_hashPart_16 hp.1 ?_
      rw [hlen]
      refine x_icmp_ge (pc := 19) hC 65 dX11_hashPart_19 (by decide) (by omega) (by omega) (fun b19 => ?_) (fun b19 => ?_)
      · refine x_iload_n (pc := 65) hC dX11_hashPart_65 rfl ?_
        refine x_iret (pc := 66) hC rfl dX11_hashPart_66 ?_
        have hk9 : k = L.length := by omega
        rw [hk9, List.take_length]
        exact ⟨rfl, rfl, rfl, rfl, rfl, rfl⟩
      · have hkl : k < L.length := by omega
        have hat := ptS_at hp hkl
        have hr := hL _ (List.mem_of_getElem? hat)
        have hsg := hs (atO L k).toNat (by omega)
        rw [show (((atO L k).toNat : Nat) : Int) = atO L k by omega] at hsg
        have htf := take_fold (F := (fun h x => 31 * h + sgn x.toNat)) (s := 31 * b + L.length) hat
        refine x_aload_n (pc := 22) hC dX11_hashPart_22 rfl ?_
        refine x_iload (pc := 23) hC dX11_hashPart_23 rfl ?_
        refine x_mV (pc := 25) hC cv_X11_168 dX11_hashPart_25 (c_lineAt hp (by omega) (by omega)) hp.1 rfl (by decide) rfl rfl (Nat.le_of_ble_eq_true rfl) ?_
        dsimp only [Option.toList, List.cons_append, List.nil_append]
        refine x_istore (pc := 28) hC dX11_hashPart_28 (Nat.le_of_ble_eq_true rfl) ?_
        dsimp only [List.set]
        refine x_bipush (pc := 30) hC dX11_hashPart_30 (by decide) ?_
        refine x_iload_n (pc := 32) hC dX11_hashPart_32 rfl ?_
        refine x_imul (pc := 33) hC dX11_hashPart_33 ?_
        refine x_iload (pc := 34) hC dX11_hashPart_34 rfl ?_
        refine x_if_lt (pc := 36) hC 56 dX11_hashPart_36 (by decide) (by omega) (fun b36 => ?_) (fun b36 => ?_)
        · refine x_iconst (pc := 56) hC dX11_hashPart_56 ?_
          refine x_iadd (pc := 57) hC dX11_hashPart_57 ?_
          refine x_istore_n (pc := 58) hC dX11_hashPart_58 (Nat.le_of_ble_eq_true rfl) ?_
          dsimp only [List.set]
          refine x_iinc (pc := 59) hC dX11_hashPart_59 rfl ?_
          dsimp only [List.set]
          refine x_goto (pc := 62) hC 13 dX11_hashPart_62 (by decide) ?_
          first
          | (exfalso; omega)
          | (rw [hsg]
             have := ih (k + 1) (vI (atO L k)) (by omega) (by omega)
             rw [htf, show (((k + 1 : Nat) : Nat) : Int) = (k : Int) + 1 by omega] at this
             exact this)
        · refine x_iload (pc := 39) hC dX11_hashPart_39 rfl ?_
          refine x_bipush (pc := 41) hC dX11_hashPart_41 (by decide) ?_
          refine x_icmp_ge (pc := 43) hC 56 dX11_hashPart_43 (by decide) (by omega) (by omega) (fun b43 => ?_) (fun b43 => ?_)
          · refine x_iconst (pc := 56) hC dX11_hashPart_56 ?_
            refine x_iadd (pc := 57) hC dX11_hashPart_57 ?_
            refine x_istore_n (pc := 58) hC dX11_hashPart_58 (Nat.le_of_ble_eq_true rfl) ?_
            dsimp only [List.set]
            refine x_iinc (pc := 59) hC dX11_hashPart_59 rfl ?_
            dsimp only [List.set]
            refine x_goto (pc := 62) hC 13 dX11_hashPart_62 (by decide) ?_
            first
            | (exfalso; omega)
            | (rw [hsg]
               have := ih (k + 1) (vI (atO L k)) (by omega) (by omega)
               rw [htf, show (((k + 1 : Nat) : Nat) : Int) = (k : Int) + 1 by omega] at this
               exact this)
          · refine x_aload_n (pc := 46) hC dX11_hashPart_46 rfl ?_
            refine x_getO (pc := 47) hC gf_X11_50 dX11_hashPart_47 (fx_ta hx) (fx_sc hx).1 ?_
            refine x_iload (pc := 50) hC dX11_hashPart_50 rfl ?_
            refine x_iald (pc := 52) hC dX11_hashPart_52 (fx_sc hx).2.1 (by omega) (by rw [(fx_sc hx).2.2]; omega) ?_
            refine x_goto (pc := 53) hC 57 dX11_hashPart_53 (by decide) ?_
            refine x_iadd (pc := 57) hC dX11_hashPart_57 ?_
            refine x_istore_n (pc := 58) hC dX11_hashPart_58 (Nat.le_of_ble_eq_true rfl) ?_
            dsimp only [List.set]
            refine x_iinc (pc := 59) hC dX11_hashPart_59 rfl ?_
            dsimp only [List.set]
            refine x_goto (pc := 62) hC 13 dX11_hashPart_62 (by decide) ?_
            first
            | (exfalso; omega)
            | (rw [hsg]
               have := ih (k + 1) (vI (atO L k)) (by omega) (by omega)
               rw [htf, show (((k + 1 : Nat) : Nat) : Int) = (k : Int) + 1 by omega] at this
               exact this)
  refine x_bipush (pc := 0) hC dX11_hashPart_0 (by decide) ?_
  refine x_iload_n (pc := 2) hC dX11_hashPart_2 rfl ?_
  refine x_imul (pc := 3) hC dX11_hashPart_3 ?_
  refine x_aload_n (pc := 4) hC dX11_hashPart_4 rfl ?_
  refine x_getI (pc := 5) hC gf_X11_163 dX11_hashPart_5 hp.1 ?_
  rw [hlen]
  refine x_iadd (pc := 8) hC dX11_hashPart_8 ?_
  refine x_istore_n (pc := 9) hC dX11_hashPart_9 (Nat.le_of_ble_eq_true rfl) ?_
  dsimp only [List.set]
  refine x_iconst (pc := 10) hC dX11_hashPart_10 ?_
  refine x_istore (pc := 11) hC dX11_hashPart_11 (Nat.le_of_ble_eq_true rfl) ?_
  dsimp only [List.set]
  exact loop _ 0 _ (Nat.le_refl _) (Nat.zero_le _)

set_option maxHeartbeats 4000000 in
set_option maxRecDepth 100000 in
theorem c_mark {G : ax_G} {T : Nat → Nat} {N : Nat → Int} {I : Nat → Int → Int} {R : Nat → Int → Option Nat} {z a o : Nat} {σ : Nat → Int → Int} {A w : Int → Nat} (h : RelA G T N I R z a o σ A w) (hI : miC σ o) (hz0 : σ (o + 6) 0 = 0) {c : Int} (rc : ax_r c) : axR G YX11_mark 4 [vR a, vI c] T N I R z (fun r1 I1 R1 => r1 = some (vI (mkR σ o c)) ∧ scK T N a I I1 R R1) := by
  refine ax_enter (by decide) (Nat.le_of_ble_eq_true rfl) (ax_cat rfl) (fun f hC => ?_)
  show axX G f 0 0 _ 0 [vR a, vI c, vU, vU, vU] [] T N I R z 0 0
  have hx := rl_fx h
  by_cases hc : 0 ≤ c ∧ c < σ o 2
  · have k1 := ((rl_cs h).2 c hc.1 hc.2).1
    have loop : ∀ (J : Nat → Int → Int) (S : Nat → Int → Option Nat), RelA G T N J S z a o σ A w → scK T N a I J R S → mcS T N J S (a + 98) (chgC σ o c) → ∀ (n k : Nat), (chgC σ o c).length - k ≤ n → k ≤ (chgC σ o c).length → axX G f 0 0 (fun r1 T1 N1 I1 R1 z1 => (r1 = some (vI (mkR σ o c)) ∧ scK T N a I I1 R R1) ∧ T1 = T ∧ N1 = N ∧ z1 = z) 31 [vR a, vI c, vR (A c), vI (((chgC σ o c).take k).foldl (fun h (p : List Int × List Int) => hsl (hsl h p.1) p.2) ((chgC σ o c).length : Int)), vI (k : Int)] [] T N J S z 0 0 := by
      intro J S h1 hsc hm1 n
      have hx1 := rl_fx h1
      have hm2 := (fx_ch hx1).2
      have h4 := hm1.1
      have h17 := hm1.2.1
      have dn : ∀ k, k = (chgC σ o c).length → (fun r1 T1 N1 I1 R1 z1 => (r1 = some (vI (mkR σ o c)) ∧ scK T N a I I1 R R1) ∧ T1 = T ∧ N1 = N ∧ z1 = z) (some (vI (((chgC σ o c).take k).foldl (fun h (p : List Int × List Int) => hsl (hsl h p.1) p.2) ((chgC σ o c).length : Int)))) T N J S z := fun k hk => by
        subst hk
        rw [List.take_length]
        refine ⟨⟨?_, hsc⟩, rfl, rfl, rfl⟩
        unfold mkR hsC
        rw [if_pos hc]
      induction n with
      | zero =>
        intro k hn hk
        refine x_iload (pc := 31) hC dX11_mark_31 rfl ?_
        refine x_aload_n (pc := 33) hC dX11_mark_33 rfl ?_
        refine x_getO (pc := 34) hC gf_X11_43 dX11_mark_34 (fx_ta hx) (fx_ch hx1).1 ?_
        refine x_getI (pc := 37) hC gf_X11_140 dX11_mark_37 hm2.1 ?_
        rw [h4]
        refine x_icmp_ge (pc := 40) hC 79 dX11_mark_40 (by decide) (by omega) (by omega) (fun b40 => ?_) (fun b40 => ?_)
        · refine x_iload_n (pc := 79) hC dX11_mark_79 rfl ?_
          refine x_iret (pc := 80) hC rfl dX11_mark_80 ?_
          exact dn k (by omega)
        · omega
      | succ n ih =>
        intro k hn hk
        refine x_iload (pc := 31) hC dX11_mark_31 rfl ?_
        refine x_aload_n (pc := 33) hC dX11_mark_33 rfl ?_
        refine x_getO (pc := 34) hC gf_X11_43 dX11_mark_34 (fx_ta hx) (fx_ch hx1).1 ?_
        refine x_getI (pc := 37) hC gf_X11_140 dX11_mark_37 hm2.1 ?_
        rw [h4]
        refine x_icmp_ge (pc := 40) hC 79 dX11_mark_40 (by decide) (by omega) (by omega) (fun b40 => ?_) (fun b40 => ?_)
        · refine x_iload_n (pc := 79) hC dX11_mark_79 rfl ?_
          refine x_iret (pc := 80) hC rfl dX11_mark_80 ?_
          exact dn k (by omega)
        · have hkl : k < (chgC σ o c).length := by omega
          obtain ⟨q, hq⟩ : ∃ q, (chgC σ o c)[k]? = some q := ⟨_, List.getElem?_eq_getElem hkl⟩
          obtain ⟨⟨p1, l1⟩, p2, l2⟩ := hm1.2.2 k q hq
          obtain ⟨d1, d2, d3, d4⟩ := hm2.2.2.2.2.2 k (by omega)
          refine x_aload_n (pc := 43) hC dX11_mark_43 rfl ?_
          refine x_aload_n (pc := 44) hC dX11_mark_44 rfl ?_
          refine x_iload_n (pc := 45) hC dX11_mark_45 rfl ?_
          refine x_aload_n (pc := 46) hC dX11_mark_46 rfl ?_
          refine x_getO (pc := 47) hC gf_X11_43 dX11_mark_47 (fx_ta hx) (fx_ch hx1).1 ?_
          refine x_getO (pc := 50) hC gf_X11_156 dX11_mark_50 hm2.1 hm2.2.2.2.1.1 ?_
          refine x_iload (pc := 53) hC dX11_mark_53 rfl ?_
          refine x_aald (pc := 55) hC axEl_14 dX11_mark_55 hm2.2.2.2.1.2.1 (by omega) (by rw [hm2.2.2.2.1.2.2]; omega) d1 ?_
          refine x_mV (pc := 56) hC cv_X11_171 dX11_mark_56 (c_hashPart hx1 (rl_sg h1) p1 l1) (fx_ta hx) rfl (by decide) rfl rfl (Nat.le_of_ble_eq_true rfl) ?_
          dsimp only [Option.toList, List.cons_append, List.nil_append]
          refine x_aload_n (pc := 59) hC dX11_mark_59 rfl ?_
          refine x_getO (pc := 60) hC gf_X11_43 dX11_mark_60 (fx_ta hx) (fx_ch hx1).1 ?_
          refine x_getO (pc := 63) hC gf_X11_160 dX11_mark_63 hm2.1 hm2.2.2.2.2.1.1 ?_
          refine x_iload (pc := 66) hC dX11_mark_66 rfl ?_
          refine x_aald (pc := 68) hC axEl_14 dX11_mark_68 hm2.2.2.2.2.1.2.1 (by omega) (by rw [hm2.2.2.2.2.1.2.2]; omega) d3 ?_
          refine x_mV (pc := 69) hC cv_X11_171 dX11_mark_69 (c_hashPart hx1 (rl_sg h1) p2 l2) (fx_ta hx) rfl (by decide) rfl rfl (Nat.le_of_ble_eq_true rfl) ?_
          dsimp only [Option.toList, List.cons_append, List.nil_append]
          refine x_istore_n (pc := 72) hC dX11_mark_72 (Nat.le_of_ble_eq_true rfl) ?_
          dsimp only [List.set]
          refine x_iinc (pc := 73) hC dX11_mark_73 rfl ?_
          dsimp only [List.set]
          refine x_goto (pc := 76) hC 31 dX11_mark_76 (by decide) ?_
          have := ih (k + 1) (by omega) (by omega)
          rw [List.take_add_one, hq, List.foldl_append, show (((k + 1 : Nat) : Nat) : Int) = (k : Int) + 1 by omega] at this
          exact this
    refine x_aload_n (pc := 0) hC dX11_mark_0 rfl ?_
    refine x_iload_n (pc := 1) hC dX11_mark_1 rfl ?_
    refine x_mV (pc := 2) hC cv_X11_123 dX11_mark_2 (rl_at h hI hc) (fx_ta hx) rfl (by decide) rfl rfl (Nat.le_of_ble_eq_true rfl) ?_
    dsimp only [Option.toList, List.cons_append, List.nil_append]
    refine x_astore_n (pc := 5) hC dX11_mark_5 (Nat.le_of_ble_eq_true rfl) ?_
    dsimp only [List.set]
    refine x_aload_n (pc := 6) hC dX11_mark_6 rfl ?_
    refine x_ifnonnull (pc := 7) hC 12 dX11_mark_7 (by decide) (fun _ _ => ?_) (fun h => by cases h)
    refine x_aload_n (pc := 12) hC dX11_mark_12 rfl ?_
    refine x_getO (pc := 13) hC gf_X11_43 dX11_mark_13 (fx_ta hx) (fx_ch hx).1 ?_
    refine x_aload_n (pc := 16) hC dX11_mark_16 rfl ?_
    refine x_rV (pc := 17) hC cv_X11_136 dX11_mark_17 (c_readChange (rl_cs h) (fx_ch hx).2 hc (rl_ap h (Or.inl rfl))) (fx_ch hx).2.1 rfl (by decide) rfl rfl (Nat.le_of_ble_eq_true rfl) ?_
    rintro v J1 S1 ⟨rfl, m1, m2, m2w⟩
    dsimp only [Option.toList, List.nil_append]
    have s1 : scK T N a I J1 R S1 := sc_rd (Or.inl rfl) m1
    have h1 := rl_sc h s1
    have hx1 := rl_fx h1
    rw [rl_chg h hI hz0 hc.1 hc.2] at m2
    refine x_aload_n (pc := 20) hC dX11_mark_20 rfl ?_
    refine x_getO (pc := 21) hC gf_X11_43 dX11_mark_21 (fx_ta hx) (fx_ch hx1).1 ?_
    refine x_getI (pc := 24) hC gf_X11_140 dX11_mark_24 (fx_ch hx1).2.1 ?_
    rw [m2.1]
    refine x_istore_n (pc := 27) hC dX11_mark_27 (Nat.le_of_ble_eq_true rfl) ?_
    dsimp only [List.set]
    refine x_iconst (pc := 28) hC dX11_mark_28 ?_
    refine x_istore (pc := 29) hC dX11_mark_29 (Nat.le_of_ble_eq_true rfl) ?_
    dsimp only [List.set]
    exact loop J1 S1 h1 s1 m2 _ 0 (Nat.le_refl _) (Nat.zero_le _)
  · refine x_aload_n (pc := 0) hC dX11_mark_0 rfl ?_
    refine x_iload_n (pc := 1) hC dX11_mark_1 rfl ?_
    refine x_mV (pc := 2) hC cv_X11_123 dX11_mark_2 (rl_no h hI rc hc) (fx_ta hx) rfl (by decide) rfl rfl (Nat.le_of_ble_eq_true rfl) ?_
    dsimp only [Option.toList, List.cons_append, List.nil_append]
    refine x_astore_n (pc := 5) hC dX11_mark_5 (Nat.le_of_ble_eq_true rfl) ?_
    dsimp only [List.set]
    refine x_aload_n (pc := 6) hC dX11_mark_6 rfl ?_
    refine x_ifnonnull (pc := 7) hC 12 dX11_mark_7 (by decide) (fun _ h => by cases h) (fun _ => ?_)
    refine x_iconst (pc := 10) hC dX11_mark_10 ?_
    refine x_iret (pc := 11) hC rfl dX11_mark_11 ?_
    refine ⟨⟨?_, scK.rf⟩, rfl, rfl, rfl⟩
    unfold mkR
    rw [if_neg hc]

set_option maxHeartbeats 4000000 in
set_option maxRecDepth 100000 in
theorem c_piece {G : ax_G} {T : Nat → Nat} {N : Nat → Int} {I : Nat → Int → Int} {R : Nat → Int → Option Nat} {z a o : Nat} {σ : Nat → Int → Int} {A w : Int → Nat} (h : RelA G T N I R z a o σ A w) (hI : miC σ o) (hz0 : σ (o + 6) 0 = 0) {c k v : Int} (rc : ax_r c) (rk : ax_r k) (rv : ax_r v) : axR G YX11_piece 4 [vR a, vI c, vI k, vI v] T N I R z (fun r1 I1 R1 => r1 = some (vI (pcR σ o c k v)) ∧ scK T N a I I1 R R1) := by
  refine ax_enter (by decide) (Nat.le_of_ble_eq_true rfl) (ax_cat rfl) (fun f hC => ?_)
  show axX G f 0 0 _ 0 [vR a, vI c, vI k, vI v, vU, vU, vU] [] T N I R z 0 0
  have hx := rl_fx h
  unfold pcR
  by_cases hc : 0 ≤ c ∧ c < σ o 2
  · have k1 := ((rl_cs h).2 c hc.1 hc.2).1
    refine x_aload_n (pc := 0) hC dX11_piece_0 rfl ?_
    refine x_iload_n (pc := 1) hC dX11_piece_1 rfl ?_
    refine x_mV (pc := 2) hC cv_X11_123 dX11_piece_2 (rl_at h hI hc) (fx_ta hx) rfl (by decide) rfl rfl (Nat.le_of_ble_eq_true rfl) ?_
    dsimp only [Option.toList, List.cons_append, List.nil_append]
    refine x_astore (pc := 5) hC dX11_piece_5 (Nat.le_of_ble_eq_true rfl) ?_
    dsimp only [List.set]
    refine x_aload (pc := 7) hC dX11_piece_7 rfl ?_
    refine x_ifnonnull (pc := 9) hC 14 dX11_piece_9 (by decide) (fun _ _ => ?_) (fun h => by cases h)
    refine x_aload_n (pc := 14) hC dX11_piece_14 rfl ?_
    refine x_getO (pc := 15) hC gf_X11_43 dX11_piece_15 (fx_ta hx) (fx_ch hx).1 ?_
    refine x_aload (pc := 18) hC dX11_piece_18 rfl ?_
    refine x_rV (pc := 20) hC cv_X11_136 dX11_piece_20 (c_readChange (rl_cs h) (fx_ch hx).2 hc (rl_ap h (Or.inl rfl))) (fx_ch hx).2.1 rfl (by decide) rfl rfl (Nat.le_of_ble_eq_true rfl) ?_
    rintro v9 J1 S1 ⟨rfl, m1, m2, m2w⟩
    dsimp only [Option.toList, List.nil_append]
    have s1 : scK T N a I J1 R S1 := sc_rd (Or.inl rfl) m1
    have h1 := rl_sc h s1
    have hx1 := rl_fx h1
    have hm2 := (fx_ch hx1).2
    rw [rl_chg h hI hz0 hc.1 hc.2] at m2
    have h4 := m2.1
    have h17 := m2.2.1
    by_cases hk : 0 ≤ k ∧ k < (chgC σ o c).length
    · rw [if_pos ⟨hc, hk⟩]
      obtain ⟨q, hq⟩ : ∃ q, (chgC σ o c)[k.toNat]? = some q := ⟨_, List.getElem?_eq_getElem (by omega)⟩
      have hgd : (chgC σ o c).getD k.toNat ([], []) = q := by rw [List.getD_eq_getElem?_getD, hq]; rfl
      rw [hgd]
      obtain ⟨⟨p1, l1⟩, p2, l2⟩ := m2.2.2 k.toNat q hq
      obtain ⟨d1, d2, d3, d4⟩ := hm2.2.2.2.2.2 k.toNat (by omega)
      rw [show ((k.toNat : Nat) : Int) = k by omega] at d1 d3
      have e1 := ptS_len p1
      have e2 := ptS_len p2
      have g1 : q.1.length ≤ 100000 := by
        obtain ⟨-, r, -, -, x3, x4, x5, x6, -⟩ := p1
        omega
      unfold pcV
      refine x_iload_n (pc := 23) hC dX11_piece_23 rfl ?_
      refine x_if_lt (pc := 24) hC 38 dX11_piece_24 (by decide) (by omega) (fun b24 => ?_) (fun b24 => ?_)
      · exfalso; omega
      · refine x_iload_n (pc := 27) hC dX11_piece_27 rfl ?_
        refine x_aload_n (pc := 28) hC dX11_piece_28 rfl ?_
        refine x_getO (pc := 29) hC gf_X11_43 dX11_piece_29 (fx_ta hx) (fx_ch hx1).1 ?_
        refine x_getI (pc := 32) hC gf_X11_140 dX11_piece_32 hm2.1 ?_
        rw [h4]
        refine x_icmp_lt (pc := 35) hC 40 dX11_piece_35 (by decide) (by omega) (by omega) (fun b35 => ?_) (fun b35 => ?_)
        · refine x_aload_n (pc := 40) hC dX11_piece_40 rfl ?_
          refine x_getO (pc := 41) hC gf_X11_43 dX11_piece_41 (fx_ta hx) (fx_ch hx1).1 ?_
          refine x_getO (pc := 44) hC gf_X11_156 dX11_piece_44 hm2.1 hm2.2.2.2.1.1 ?_
          refine x_iload_n (pc := 47) hC dX11_piece_47 rfl ?_
          refine x_aald (pc := 48) hC axEl_14 dX11_piece_48 hm2.2.2.2.1.2.1 (by omega) (by rw [hm2.2.2.2.1.2.2]; omega) d1 ?_
          refine x_astore (pc := 49) hC dX11_piece_49 (Nat.le_of_ble_eq_true rfl) ?_
          dsimp only [List.set]
          refine x_aload_n (pc := 51) hC dX11_piece_51 rfl ?_
          refine x_getO (pc := 52) hC gf_X11_43 dX11_piece_52 (fx_ta hx) (fx_ch hx1).1 ?_
          refine x_getO (pc := 55) hC gf_X11_160 dX11_piece_55 hm2.1 hm2.2.2.2.2.1.1 ?_
          refine x_iload_n (pc := 58) hC dX11_piece_58 rfl ?_
          refine x_aald (pc := 59) hC axEl_14 dX11_piece_59 hm2.2.2.2.2.1.2.1 (by omega) (by rw [hm2.2.2.2.2.1.2.2]; omega) d3 ?_
          refine x_astore (pc := 60) hC dX11_piece_60 (Nat.le_of_ble_eq_true rfl) ?_
          dsimp only [List.set]
          refine x_iload_n (pc := 62) hC dX11_piece_62 rfl ?_
          refine x_if_ne (pc := 63) hC 72 dX11_piece_63 (by decide) (by omega) (fun b63 => ?_) (fun b63 => ?_)
          · refine x_iload_n (pc := 72) hC dX11_piece_72 rfl ?_
            refine x_iconst (pc := 73) hC dX11_piece_73 ?_
            refine x_icmp_ne (pc := 74) hC 83 dX11_piece_74 (by decide) (by omega) (by omega) (fun b74 => ?_) (fun b74 => ?_)
            · refine x_iload_n (pc := 83) hC dX11_piece_83 rfl ?_
              refine x_bipush (pc := 84) hC dX11_piece_84 (by decide) ?_
              refine x_icmp_lt (pc := 86) hC 114 dX11_piece_86 (by decide) (by omega) (by omega) (fun b86 => ?_) (fun b86 => ?_)
              · refine x_iload_n (pc := 114) hC dX11_piece_114 rfl ?_
                refine x_bipush (pc := 115) hC dX11_piece_115 (by decide) ?_
                refine x_isubW (pc := 117) hC dX11_piece_117 (by omega) (by omega) (fun v1 r1 e9 => ?_)
                refine x_mS (pc := 118) hC cs_X11_149 dX11_piece_118 (c_isLineIndex r1) rfl (by decide) rfl rfl (Nat.le_of_ble_eq_true rfl) ?_
                dsimp only [Option.toList, List.cons_append, List.nil_append]
                refine x_ifB_eq (pc := 121) hC 136 dX11_piece_121 (by decide) (fun b121 => ?_) (fun b121 => ?_)
                · refine x_bipush (pc := 136) hC dX11_piece_136 (by decide) ?_
                  refine x_iret (pc := 138) hC rfl dX11_piece_138 ?_
                  first
                  | (rw [if_pos (by omega), show v2 = v - 10 by omega]; exact ⟨⟨rfl, s1⟩, rfl, rfl, rfl⟩)
                  | (rw [if_neg (by omega), if_neg (by omega), if_neg (by omega), if_neg (by omega)]; exact ⟨⟨rfl, s1⟩, rfl, rfl, rfl⟩)
                · refine x_aload (pc := 124) hC dX11_piece_124 rfl ?_
                  refine x_iload_n (pc := 126) hC dX11_piece_126 rfl ?_
                  refine x_bipush (pc := 127) hC dX11_piece_127 (by decide) ?_
                  refine x_isubW (pc := 129) hC dX11_piece_129 (by omega) (by omega) (fun v2 r2 e8 => ?_)
                  refine x_mV (pc := 130) hC cv_X11_168 dX11_piece_130 (c_lineAt p1 r2 (by omega)) d2 rfl (by decide) rfl rfl (Nat.le_of_ble_eq_true rfl) ?_
                  dsimp only [Option.toList, List.cons_append, List.nil_append]
                  refine x_goto (pc := 133) hC 138 dX11_piece_133 (by decide) ?_
                  refine x_iret (pc := 138) hC rfl dX11_piece_138 ?_
                  first
                  | (rw [if_pos (by omega), show v2 = v - 10 by omega]; exact ⟨⟨rfl, s1⟩, rfl, rfl, rfl⟩)
                  | (rw [if_neg (by omega), if_neg (by omega), if_neg (by omega), if_neg (by omega)]; exact ⟨⟨rfl, s1⟩, rfl, rfl, rfl⟩)
              · refine x_iload_n (pc := 89) hC dX11_piece_89 rfl ?_
                refine x_bipush (pc := 90) hC dX11_piece_90 (by decide) ?_
                refine x_isubW (pc := 92) hC dX11_piece_92 (by omega) (by omega) (fun v1 r1 e9 => ?_)
                refine x_mS (pc := 93) hC cs_X11_149 dX11_piece_93 (c_isLineIndex r1) rfl (by decide) rfl rfl (Nat.le_of_ble_eq_true rfl) ?_
                dsimp only [Option.toList, List.cons_append, List.nil_append]
                refine x_ifB_eq (pc := 96) hC 111 dX11_piece_96 (by decide) (fun b96 => ?_) (fun b96 => ?_)
                · refine x_bipush (pc := 111) hC dX11_piece_111 (by decide) ?_
                  refine x_iret (pc := 113) hC rfl dX11_piece_113 ?_
                  first
                  | (rw [if_neg (by omega), if_pos (by omega), show v2 = v - 30 by omega]; exact ⟨⟨rfl, s1⟩, rfl, rfl, rfl⟩)
                  | (rw [if_neg (by omega), if_neg (by omega), if_neg (by omega), if_neg (by omega)]; exact ⟨⟨rfl, s1⟩, rfl, rfl, rfl⟩)
                · refine x_aload (pc := 99) hC dX11_piece_99 rfl ?_
                  refine x_iload_n (pc := 101) hC dX11_piece_101 rfl ?_
                  refine x_bipush (pc := 102) hC dX11_piece_102 (by decide) ?_
                  refine x_isubW (pc := 104) hC dX11_piece_104 (by omega) (by omega) (fun v2 r2 e8 => ?_)
                  refine x_mV (pc := 105) hC cv_X11_168 dX11_piece_105 (c_lineAt p2 r2 (by omega)) d4 rfl (by decide) rfl rfl (Nat.le_of_ble_eq_true rfl) ?_
                  dsimp only [Option.toList, List.cons_append, List.nil_append]
                  refine x_goto (pc := 108) hC 113 dX11_piece_108 (by decide) ?_
                  refine x_iret (pc := 113) hC rfl dX11_piece_113 ?_
                  first
                  | (rw [if_neg (by omega), if_pos (by omega), show v2 = v - 30 by omega]; exact ⟨⟨rfl, s1⟩, rfl, rfl, rfl⟩)
                  | (rw [if_neg (by omega), if_neg (by omega), if_neg (by omega), if_neg (by omega)]; exact ⟨⟨rfl, s1⟩, rfl, rfl, rfl⟩)
            · refine x_aload (pc := 77) hC dX11_piece_77 rfl ?_
              refine x_getI (pc := 79) hC gf_X11_163 dX11_piece_79 d4 ?_
              refine x_iret (pc := 82) hC rfl dX11_piece_82 ?_
              rw [if_neg (by omega), if_neg (by omega), if_neg (by omega), if_pos (by assumption)]
              exact ⟨⟨by rw [e2], s1⟩, rfl, rfl, rfl⟩
          · refine x_aload (pc := 66) hC dX11_piece_66 rfl ?_
            refine x_getI (pc := 68) hC gf_X11_163 dX11_piece_68 d2 ?_
            refine x_iret (pc := 71) hC rfl dX11_piece_71 ?_
            rw [if_neg (by omega), if_neg (by omega), if_pos (by assumption)]
            exact ⟨⟨by rw [e1], s1⟩, rfl, rfl, rfl⟩
        · exfalso; omega
    · rw [if_neg (fun h9 => hk h9.2)]
      refine x_iload_n (pc := 23) hC dX11_piece_23 rfl ?_
      refine x_if_lt (pc := 24) hC 38 dX11_piece_24 (by decide) (by omega) (fun b24 => ?_) (fun b24 => ?_)
      · refine x_iconst (pc := 38) hC dX11_piece_38 ?_
        refine x_iret (pc := 39) hC rfl dX11_piece_39 ?_
        exact ⟨⟨rfl, s1⟩, rfl, rfl, rfl⟩
      · refine x_iload_n (pc := 27) hC dX11_piece_27 rfl ?_
        refine x_aload_n (pc := 28) hC dX11_piece_28 rfl ?_
        refine x_getO (pc := 29) hC gf_X11_43 dX11_piece_29 (fx_ta hx) (fx_ch hx1).1 ?_
        refine x_getI (pc := 32) hC gf_X11_140 dX11_piece_32 hm2.1 ?_
        rw [h4]
        refine x_icmp_lt (pc := 35) hC 40 dX11_piece_35 (by decide) (by omega) (by omega) (fun b35 => ?_) (fun b35 => ?_)
        · exfalso; omega
        · refine x_iconst (pc := 38) hC dX11_piece_38 ?_
          refine x_iret (pc := 39) hC rfl dX11_piece_39 ?_
          exact ⟨⟨rfl, s1⟩, rfl, rfl, rfl⟩
  · rw [if_neg (fun h9 => hc h9.1)]
    refine x_aload_n (pc := 0) hC dX11_piece_0 rfl ?_
    refine x_iload_n (pc := 1) hC dX11_piece_1 rfl ?_
    refine x_mV (pc := 2) hC cv_X11_123 dX11_piece_2 (rl_no h hI rc hc) (fx_ta hx) rfl (by decide) rfl rfl (Nat.le_of_ble_eq_true rfl) ?_
    dsimp only [Option.toList, List.cons_append, List.nil_append]
    refine x_astore (pc := 5) hC dX11_piece_5 (Nat.le_of_ble_eq_true rfl) ?_
    dsimp only [List.set]
    refine x_aload (pc := 7) hC dX11_piece_7 rfl ?_
    refine x_ifnonnull (pc := 9) hC 14 dX11_piece_9 (by decide) (fun _ h => by cases h) (fun _ => ?_)
    refine x_iconst (pc := 12) hC dX11_piece_12 ?_
    refine x_iret (pc := 13) hC rfl dX11_piece_13 ?_
    exact ⟨⟨rfl, scK.rf⟩, rfl, rfl, rfl⟩

