/-! THE CLASS: a change that is there already -/
/-- only the two matchings have changed -/
def mtF (a : Nat) (I J : Nat → Int → Int) (R S : Nat → Int → Option Nat) : Prop := ∀ q, q < a + 98 ∨ a + 176 ≤ q → J q = I q ∧ S q = R q
theorem mtF.tr {a : Nat} {I J K : Nat → Int → Int} {R S U : Nat → Int → Option Nat} (h : mtF a I J R S) (k : mtF a J K S U) : mtF a I K R U := fun q hq => ⟨(k q hq).1.trans (h q hq).1, (k q hq).2.trans (h q hq).2⟩
theorem mcF_mt {a m : Nat} {I J : Nat → Int → Int} {R S : Nat → Int → Option Nat} (hm : m = a + 98 ∨ m = a + 137) (h : mcF I J R S m) : mtF a I J R S := fun q hq => ⟨h.1 q (by omega), h.2 q (by omega)⟩

set_option maxHeartbeats 4000000 in
set_option maxRecDepth 100000 in
theorem c_isThere {G : ax_G} {T : Nat → Nat} {N : Nat → Int} {I : Nat → Int → Int} {R : Nat → Int → Option Nat} {z a o : Nat} {σ : Nat → Int → Int} {A w : Int → Nat} (h : RelA G T N I R z a o σ A w) (hI : miC σ o) (hz0 : σ (o + 6) 0 = 0) {r wr : Nat} {x : Int} {TH : List Int} (hr : rpT T N R r wr) (hrr : (r = a + 183 ∧ wr = a + 184) ∨ (r = a + 189 ∧ wr = a + 192)) (hx0 : 0 ≤ x ∧ x < σ o 2) (h7 : I r 7 = TH.length) (hT24 : TH.length ≤ 24) (hTR : ∀ (k : Nat) (v : Int), TH[k]? = some v → R (wr + 1) k = some (A v)) (hTA : ∀ v ∈ TH, 0 ≤ v ∧ v < σ o 2) [Decidable (σ (o + 1) x = 0 ∧ ∃ y ∈ TH, chgC σ o x = chgC σ o y)] : axR G YX11_isThereAlready 4 [vR a, vR r, vR (A x)] T N I R z (fun r1 I1 R1 => r1 = some (vI (bI (σ (o + 1) x = 0 ∧ ∃ y ∈ TH, chgC σ o x = chgC σ o y))) ∧ scK T N a I I1 R R1 ∧ mtF a I I1 R R1) := by
  refine ax_enter (by decide) (Nat.le_of_ble_eq_true rfl) (ax_cat rfl) (fun f hC => ?_)
  show axX G f 0 0 _ 0 [vR a, vR r, vR (A x), vU] [] T N I R z 0 0
  have hx := rl_fx h
  have b1 := fx_b1 hx
  obtain ⟨k1, k2, -⟩ := (rl_cs h).2 x hx0.1 hx0.2
  have hkd := (rl_cc h x hx0.1 hx0.2).2.1
  have hkb := hI.2.2.2.2.2 x
  have hkr : ax_r (σ (o + 1) x) := by constructor <;> omega
  have loop : σ (o + 1) x = 0 → ∀ (n k : Nat) (J : Nat → Int → Int) (S : Nat → Int → Option Nat), TH.length - k ≤ n → k ≤ TH.length → RelA G T N J S z a o σ A w → scK T N a I J R S → mtF a I J R S → mcS T N J S (a + 98) (chgC σ o x) → mcW S (a + 98) (pwA w (σ (o + 2)) x) (w x) (chgC σ o x).length → (∀ (j : Nat) (v : Int), j < k → TH[j]? = some v → chgC σ o x ≠ chgC σ o v) → axX G f 0 0 (fun r1 T1 N1 I1 R1 z1 => (r1 = some (vI (bI (σ (o + 1) x = 0 ∧ ∃ y ∈ TH, chgC σ o x = chgC σ o y))) ∧ scK T N a I I1 R R1 ∧ mtF a I I1 R R1) ∧ T1 = T ∧ N1 = N ∧ z1 = z) 19 [vR a, vR r, vR (A x), vI (k : Int)] [] T N J S z 0 0 := by
    intro hk0 n
    have dn : ∀ (k : Nat), k = TH.length → (∀ (j : Nat) (v : Int), j < k → TH[j]? = some v → chgC σ o x ≠ chgC σ o v) → ¬ (σ (o + 1) x = 0 ∧ ∃ y ∈ TH, chgC σ o x = chgC σ o y) := fun k hk hj h9 => by
      obtain ⟨-, y, hy, he⟩ := h9
      obtain ⟨j, hj1, hj2⟩ := List.getElem_of_mem hy
      exact hj j y (by omega) (by rw [List.getElem?_eq_getElem hj1, hj2]) he
    induction n with
    | zero =>
      intro k J S hn hk h1 s1 f1 m1 m2 hj
      have j7 : J r 7 = TH.length := by rw [(f1 r (by omega)).1]; exact h7
      refine x_iload_n (pc := 19) hC dX11_isThereAlready_19 rfl ?_
      refine x_aload_n (pc := 20) hC dX11_isThereAlready_20 rfl ?_
      refine x_getI (pc := 21) hC gf_X11_381 dX11_isThereAlready_21 hr.1 ?_
      rw [j7]
      refine x_icmp_ge (pc := 24) hC 62 dX11_isThereAlready_24 (by decide) (by omega) (by omega) (fun b24 => ?_) (fun b24 => ?_)
      · refine x_iconst (pc := 62) hC dX11_isThereAlready_62 ?_
        refine x_zret (pc := 63) hC rfl dX11_isThereAlready_63 (Or.inl rfl) ?_
        refine ⟨⟨?_, s1, f1⟩, rfl, rfl, rfl⟩
        rw [bI_f (dn k (by omega) hj)]
      · exfalso; omega
    | succ n ih =>
      intro k J S hn hk h1 s1 f1 m1 m2 hj
      have j7 : J r 7 = TH.length := by rw [(f1 r (by omega)).1]; exact h7
      have hx1 := rl_fx h1
      have hrS : rpT T N S r wr := rpT_fr hr (fun k _ _ => by rw [(f1 r (by omega)).2])
      by_cases hkl : k < TH.length
      · obtain ⟨v, hv⟩ : ∃ v, TH[k]? = some v := ⟨_, List.getElem?_eq_getElem hkl⟩
        have hvA := hTA v (List.mem_of_getElem? hv)
        have hSv : S (wr + 1) k = some (A v) := by rw [(f1 (wr + 1) (by omega)).2]; exact hTR k v hv
        have kv := ((rl_cs h).2 v hvA.1 hvA.2).1
        refine x_iload_n (pc := 19) hC dX11_isThereAlready_19 rfl ?_
        refine x_aload_n (pc := 20) hC dX11_isThereAlready_20 rfl ?_
        refine x_getI (pc := 21) hC gf_X11_381 dX11_isThereAlready_21 hr.1 ?_
        rw [j7]
        refine x_icmp_ge (pc := 24) hC 62 dX11_isThereAlready_24 (by decide) (by omega) (by omega) (fun b24 => ?_) (fun b24 => ?_)
        · exfalso; omega
        · refine x_aload_n (pc := 27) hC dX11_isThereAlready_27 rfl ?_
          refine x_getO (pc := 28) hC gf_X11_47 dX11_isThereAlready_28 (fx_ta hx) (fx_co hx1).1 ?_
          refine x_aload_n (pc := 31) hC dX11_isThereAlready_31 rfl ?_
          refine x_getO (pc := 32) hC gf_X11_384 dX11_isThereAlready_32 hr.1 hrS.2.2.1.1 ?_
          refine x_iload_n (pc := 35) hC dX11_isThereAlready_35 rfl ?_
          refine x_aald (pc := 36) hC axEl_15 dX11_isThereAlready_36 hr.2.2.1.2.1 (by omega) (by rw [hr.2.2.1.2.2]; omega) hSv ?_
          refine x_rV (pc := 37) hC cv_X11_136 dX11_isThereAlready_37 (c_readChange (rl_cs h1) (fx_co hx1).2 hvA (rl_ap h1 (Or.inr rfl))) (fx_co hx1).2.1 rfl (by decide) rfl rfl (Nat.le_of_ble_eq_true rfl) ?_
          rintro v9 J2 S2 ⟨rfl, n1, n2, n2w⟩
          dsimp only [Option.toList, List.nil_append]
          have s2 : scK T N a J J2 S S2 := sc_rd (Or.inr rfl) n1
          have h2 := rl_sc h1 s2
          have hx2 := rl_fx h2
          rw [rl_chg h1 hI hz0 hvA.1 hvA.2] at n2
          have m3 : mcS T N J2 S2 (a + 98) (chgC σ o x) := mcS_fr m1 m2 rfl (fun q a1 a2 => ⟨n1.1 q (by omega), n1.2 q (by omega)⟩) (n1.1 _ (by have := rl_pw h1 hI (Or.inr rfl) hx0.1 hx0.2; unfold apt at this; omega)) (n1.1 _ (by have := rl_ap h1 (Or.inr rfl) x hx0.1 hx0.2; unfold apt at this; omega))
          have m4 : mcW S2 (a + 98) (pwA w (σ (o + 2)) x) (w x) (chgC σ o x).length := fun i hi => by
            have h17 := m1.2.1
            rw [n1.2 _ (by omega), n1.2 _ (by omega)]
            exact m2 i hi
          have f2 := f1.tr (mcF_mt (Or.inr rfl) n1)
          refine x_aload_n (pc := 40) hC dX11_isThereAlready_40 rfl ?_
          refine x_getO (pc := 41) hC gf_X11_43 dX11_isThereAlready_41 (fx_ta hx) (fx_ch hx2).1 ?_
          refine x_aload_n (pc := 44) hC dX11_isThereAlready_44 rfl ?_
          refine x_getO (pc := 45) hC gf_X11_47 dX11_isThereAlready_45 (fx_ta hx) (fx_co hx2).1 ?_
          refine x_mV (pc := 48) hC cv_X11_175 dX11_isThereAlready_48 (c_hasSame (fx_ch hx2).2 (fx_co hx2).2 m3 n2) (fx_ch hx2).2.1 rfl (by decide) rfl rfl (Nat.le_of_ble_eq_true rfl) ?_
          dsimp only [Option.toList, List.cons_append, List.nil_append]
          refine x_ifB_eq (pc := 51) hC 56 dX11_isThereAlready_51 (by decide) (fun b51 => ?_) (fun b51 => ?_)
          · refine x_iinc (pc := 56) hC dX11_isThereAlready_56 rfl ?_
            dsimp only [List.set]
            refine x_goto (pc := 59) hC 19 dX11_isThereAlready_59 (by decide) ?_
            have := ih (k + 1) J2 S2 (by omega) (by omega) h2 (s1.tr s2) f2 m3 m4 (fun j v' hj1 hj2 => ?_)
            · rw [show (((k + 1 : Nat) : Nat) : Int) = (k : Int) + 1 by omega] at this
              exact this
            · by_cases e : j = k
              · rw [e, hv] at hj2
                cases hj2
                exact b51
              · exact hj j v' (by omega) hj2
          · refine x_iconst (pc := 54) hC dX11_isThereAlready_54 ?_
            refine x_zret (pc := 55) hC rfl dX11_isThereAlready_55 (Or.inr rfl) ?_
            refine ⟨⟨?_, s1.tr s2, f2⟩, rfl, rfl, rfl⟩
            rw [bI_t (show (σ (o + 1) x = 0 ∧ ∃ y ∈ TH, chgC σ o x = chgC σ o y) from ⟨hk0, v, List.mem_of_getElem? hv, b51⟩)]
      · refine x_iload_n (pc := 19) hC dX11_isThereAlready_19 rfl ?_
        refine x_aload_n (pc := 20) hC dX11_isThereAlready_20 rfl ?_
        refine x_getI (pc := 21) hC gf_X11_381 dX11_isThereAlready_21 hr.1 ?_
        rw [j7]
        refine x_icmp_ge (pc := 24) hC 62 dX11_isThereAlready_24 (by decide) (by omega) (by omega) (fun b24 => ?_) (fun b24 => ?_)
        · refine x_iconst (pc := 62) hC dX11_isThereAlready_62 ?_
          refine x_zret (pc := 63) hC rfl dX11_isThereAlready_63 (Or.inl rfl) ?_
          refine ⟨⟨?_, s1, f1⟩, rfl, rfl, rfl⟩
          rw [bI_f (dn k (by omega) hj)]
        · exfalso; omega
  by_cases hk0 : σ (o + 1) x = 0
  · refine x_aload_n (pc := 0) hC dX11_isThereAlready_0 rfl ?_
    refine x_kind (pc := 1) hC k1 dX11_isThereAlready_1 (by decide) rfl (Nat.le_of_ble_eq_true rfl) ?_
    rw [hkd]
    refine x_if_eq (pc := 4) hC 9 dX11_isThereAlready_4 (by decide) (by omega) (fun b4 => ?_) (fun b4 => ?_)
    · refine x_aload_n (pc := 9) hC dX11_isThereAlready_9 rfl ?_
      refine x_getO (pc := 10) hC gf_X11_43 dX11_isThereAlready_10 (fx_ta hx) (fx_ch hx).1 ?_
      refine x_aload_n (pc := 13) hC dX11_isThereAlready_13 rfl ?_
      refine x_rV (pc := 14) hC cv_X11_136 dX11_isThereAlready_14 (c_readChange (rl_cs h) (fx_ch hx).2 hx0 (rl_ap h (Or.inl rfl))) (fx_ch hx).2.1 rfl (by decide) rfl rfl (Nat.le_of_ble_eq_true rfl) ?_
      rintro v9 J1 S1 ⟨rfl, m1, m2, m2w⟩
      dsimp only [Option.toList, List.nil_append]
      have s1 : scK T N a I J1 R S1 := sc_rd (Or.inl rfl) m1
      have h1 := rl_sc h s1
      have m2l := congrArg List.length (rl_chg h hI hz0 hx0.1 hx0.2)
      rw [rl_chg h hI hz0 hx0.1 hx0.2] at m2
      rw [chgL, List.length_map] at m2l
      rw [m2l] at m2w
      refine x_iconst (pc := 17) hC dX11_isThereAlready_17 ?_
      refine x_istore_n (pc := 18) hC dX11_isThereAlready_18 (Nat.le_of_ble_eq_true rfl) ?_
      dsimp only [List.set]
      exact loop hk0 _ 0 J1 S1 (Nat.le_refl _) (Nat.zero_le _) h1 s1 (mcF_mt (Or.inl rfl) m1) m2 m2w (fun j v hj1 => by omega)
    · exfalso; omega
  · refine x_aload_n (pc := 0) hC dX11_isThereAlready_0 rfl ?_
    refine x_kind (pc := 1) hC k1 dX11_isThereAlready_1 (by decide) rfl (Nat.le_of_ble_eq_true rfl) ?_
    rw [hkd]
    refine x_if_eq (pc := 4) hC 9 dX11_isThereAlready_4 (by decide) hkr (fun b4 => ?_) (fun b4 => ?_)
    · exfalso; omega
    · refine x_iconst (pc := 7) hC dX11_isThereAlready_7 ?_
      refine x_zret (pc := 8) hC rfl dX11_isThereAlready_8 (Or.inl rfl) ?_
      refine ⟨⟨?_, scK.rf, fun _ _ => ⟨rfl, rfl⟩⟩, rfl, rfl, rfl⟩
      rw [bI_f (fun h9 => hk0 h9.1)]

