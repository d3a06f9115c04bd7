/-! THE CLASS: a part joins a shape; the result -/
theorem ptS_fr {T : Nat → Nat} {N : Nat → Int} {I J : Nat → Int → Int} {R S : Nat → Int → Option Nat} {p : Nat} {L : List Int} (h : ptS T N I R p L) (hp : J p = I p) (hR : S p = R p) (hr : ∀ r, R p 0 = some r → J r = I r) : ptS T N J S p L := by
  obtain ⟨h0, r, h1, h2, h3, h4, h5, h6, h7⟩ := h
  refine ⟨h0, r, by rw [hR]; exact h1, h2, h3, by rw [hp]; exact h4, by rw [hp]; exact h5, by rw [hp]; exact h6, ?_⟩
  rw [hp, hr r h1]; exact h7
theorem shS_fr {I J : Nat → Int → Int} {s : Nat} {q : List Int × List Int} (h : shS I s q) (h0 : J s = I s) (h1 : J (s + 1) = I (s + 1)) (h2 : J (s + 2) = I (s + 2)) : shS J s q := by
  unfold shS at *
  rw [h0, h1, h2]; exact h
theorem take_sn {L : List Int} {x : Int} {v : Int} (h0 : 0 ≤ x) (h : L[x.toNat]? = some v) : L.take (x + 1).toNat = L.take x.toNat ++ [v] := by
  rw [show (x + 1).toNat = x.toNat + 1 by omega, List.take_add_one, h]
  rfl

set_option maxHeartbeats 4000000 in
set_option maxRecDepth 100000 in
theorem c_addPart {G : ax_G} {T : Nat → Nat} {N : Nat → Int} {I : Nat → Int → Int} {R : Nat → Int → Option Nat} {z : Nat} {s p : Nat} {q : List Int × List Int} {L : List Int} (hs : shT T N R s) (hq : shS I s q) (hp : ptS T N I R p L) (hL : isLn L) (hn : isLn q.2) (h51 : q.1.length + 1 + L.length ≤ 51) (h48 : q.2.length + L.length ≤ 48) (hps : p < s ∨ s + 3 ≤ p) (hrs : ∀ r, R p 0 = some r → r < s ∨ s + 3 ≤ r) : axEx G YX8_addPart 0 [vR s, vR p] T N I R z (fun r1 I1 => r1 = none ∧ shS I1 s (shPart q L) ∧ ∀ t, t < s ∨ s + 3 ≤ t → I1 t = I t) := by

  refine ax_enter (by decide) (Nat.le_of_ble_eq_true rfl) (ax_cat rfl) (fun f hC => ?_)
  show axX G f 0 0 _ 0 [vR s, vR p, vU, vU, vU] [] T N I R z 0 0
  have hlen := ptS_len hp
  obtain ⟨hpt, r, hrr, hrt, hrN, p1, p2, p3, p4⟩ := hp
  have hro := hrs r hrr
  have lv : ∀ i : Int, 0 ≤ i → i < L.length → L[i.toNat]? = some (I r (I p 1 + i)) := fun i h0 h1 => by
    have := seg_get (f := I r) (i := I p 1) (j := I p 1 + I p 2) (k := i.toNat) (by omega)
    rw [p4] at this
    rw [this, show ((i.toNat : Nat) : Int) = i by omega]
  have loop : ∀ (n : Nat) (x : Int) (J : Nat → Int → Int) (c3 c4 : ax_V), (L.length - x).toNat ≤ n → 0 ≤ x → x ≤ L.length → (∀ t, t < s ∨ s + 3 ≤ t → J t = I t) → shS J s ((L.take x.toNat).foldl shStep (q.1 ++ [(L.length : Int)], q.2)) → axX G f 0 0 (fun r1 T1 N1 I1 R1 z1 => (r1 = none ∧ shS I1 s (shPart q L) ∧ ∀ t, t < s ∨ s + 3 ≤ t → I1 t = I t) ∧ T1 = T ∧ N1 = N ∧ R1 = R ∧ z1 = z) 62 [vR s, vR p, vI x, c3, c4] [] T N J R z 0 0 := by
    intro n
    induction n with
    | zero =>
      intro x J c3 c4 hc h0 h1 hJ hS
      have jp : J p = I p := hJ p (by omega)
      refine x_iload_n (pc := 62) hC dX8_addPart_62 rfl ?_
      refine x_aload_n (pc := 63) hC dX8_addPart_63 rfl ?_
      refine x_getI (pc := 64) hC gf_X8_25 dX8_addPart_64 hpt ?_
      rw [jp]
      refine x_icmp_ge (pc := 67) hC 167 dX8_addPart_67 (by decide) (by omega) (by omega) (fun b67 => ?_) (fun b67 => ?_)
      · refine x_vret (pc := 167) hC rfl dX8_addPart_167 ?_
        have hx : x = L.length := by omega
        subst hx
        refine ⟨⟨rfl, ?_, hJ⟩, rfl, rfl, rfl, rfl⟩
        try rw [hFe] at hS
        rw [Int.toNat_natCast, List.take_length] at hS
        exact hS
      · omega
    | succ n ih =>
      intro x J c3 c4 hc h0 h1 hJ hS
      have jp : J p = I p := hJ p (by omega)
      have jr : J r = I r := hJ r (by omega)
      have hfl := shFold_l (L.take x.toNat) (q.1 ++ [(L.length : Int)], q.2)
      have hfn : isLn ((L.take x.toNat).foldl shStep (q.1 ++ [(L.length : Int)], q.2)).2 := shFold_ln _ _ (fun v hv => hL v (List.mem_of_mem_take hv)) hn
      have htl : ((L.take x.toNat).length : Int) ≤ x := by rw [List.length_take]; omega
      simp only [List.length_append, List.length_cons, List.length_nil] at hfl
      obtain ⟨F, hFe⟩ : ∃ F, F = ((L.take x.toNat).foldl shStep (q.1 ++ [(L.length : Int)], q.2)) := ⟨_, rfl⟩
      rw [← hFe] at hS hfl hfn
      have s1 := hS.1.1
      have s3 := hS.2.1
      have search : x < L.length → ∀ (c : Nat) (y : Int), (F.2.length - y).toNat ≤ c → 0 ≤ y → y ≤ F.2.length → (∀ j : Nat, j < y → F.2[j]? ≠ some (I r (I p 1 + x))) → axX G f 0 0 (fun r1 T1 N1 I1 R1 z1 => (r1 = none ∧ shS I1 s (shPart q L) ∧ ∀ t, t < s ∨ s + 3 ≤ t → I1 t = I t) ∧ T1 = T ∧ N1 = N ∧ R1 = R ∧ z1 = z) 85 [vR s, vR p, vI x, vI (I r (I p 1 + x)), vI y] [] T N J R z 0 0 := by
        intro hxl c
        have hvx := lv x h0 hxl
        have hvr := hL _ (List.mem_of_getElem? hvx)
        have put : ∀ (y : Int), 0 ≤ y → y ≤ F.2.length → (nix F.2 (I r (I p 1 + x)) : Int) = y → (y < F.2.length → I r (I p 1 + x) ∈ F.2) → (y = F.2.length → I r (I p 1 + x) ∉ F.2) → axX G f 0 0 (fun r1 T1 N1 I1 R1 z1 => (r1 = none ∧ shS I1 s (shPart q L) ∧ ∀ t, t < s ∨ s + 3 ≤ t → I1 t = I t) ∧ T1 = T ∧ N1 = N ∧ R1 = R ∧ z1 = z) 111 [vR s, vR p, vI x, vI (I r (I p 1 + x)), vI y] [] T N J R z 0 0 := by
          intro y y0 y1 hnix hin hout
          have step : ∀ (K : Nat → Int → Int) (w : Int), shS K s (F.1, if I r (I p 1 + x) ∈ F.2 then F.2 else F.2 ++ [I r (I p 1 + x)]) → (∀ t, t < s ∨ s + 3 ≤ t → K t = I t) → K s 1 = F.1.length → w = K s 1 + 1 → axX G f 0 0 (fun r1 T1 N1 I1 R1 z1 => (r1 = none ∧ shS I1 s (shPart q L) ∧ ∀ t, t < s ∨ s + 3 ≤ t → I1 t = I t) ∧ T1 = T ∧ N1 = N ∧ R1 = R ∧ z1 = z) 62 [vR s, vR p, vI (x + 1), vI (I r (I p 1 + x)), vI y] [] T N (ax_u (ax_u K (s + 1) (K s 1) y) s 1 w) R z 0 0 := by
            intro K w hK hKf hK1 hw
            refine ih (x + 1) _ _ _ (by omega) (by omega) (by omega) (fun t ht => by rw [axu_row (by omega), axu_row (by omega)]; exact hKf t ht) ?_
            have e := shS_push (v := y) hK hw
            rw [take_sn h0 hvx, List.foldl_append, ← hFe]
            simp only [List.foldl_cons, List.foldl_nil, shStep]
            rw [hnix]
            exact e
          refine x_iload (pc := 111) hC dX8_addPart_111 rfl ?_
          refine x_aload_n (pc := 113) hC dX8_addPart_113 rfl ?_
          refine x_getI (pc := 114) hC gf_X8_22 dX8_addPart_114 hs.1 ?_
          refine x_icmp_ne (pc := 117) hC 140 dX8_addPart_117 (by decide) (by omega) (by omega) (fun b117 => ?_) (fun b117 => ?_)
          · refine x_aload_n (pc := 140) hC dX8_addPart_140 rfl ?_
            refine x_getO (pc := 141) hC gf_X8_9 dX8_addPart_141 hs.1 hs.2.1.1 ?_
            refine x_aload_n (pc := 144) hC dX8_addPart_144 rfl ?_
            refine x_getI (pc := 145) hC gf_X8_18 dX8_addPart_145 hs.1 ?_
            refine x_iload (pc := 148) hC dX8_addPart_148 rfl ?_
            refine x_iast (pc := 150) hC dX8_addPart_150 hs.2.1.2.1 (by first | omega | (rw [axu_j (by decide), axu_a (by omega)]; omega)) (by rw [hs.2.1.2.2]; first | omega | (rw [axu_j (by decide), axu_a (by omega)]; omega)) ?_
            refine x_aload_n (pc := 151) hC dX8_addPart_151 rfl ?_
            refine x_dup (pc := 152) hC dX8_addPart_152 rfl ?_
            refine x_getI (pc := 153) hC gf_X8_18 dX8_addPart_153 hs.1 ?_
            refine x_iconst (pc := 156) hC dX8_addPart_156 ?_
            refine x_iadd (pc := 157) hC dX8_addPart_157 ?_
            refine x_putI (pc := 158) hC pf_X8_18 dX8_addPart_158 hs.1 (by decide) ?_
            refine x_iinc (pc := 161) hC dX8_addPart_161 rfl ?_
            dsimp only [List.set]
            refine x_goto (pc := 164) hC 62 dX8_addPart_164 (by decide) ?_
            first
            | (rw [axu_a (show s ≠ s + 2 by omega), axu_a (show s ≠ s + 1 by omega)]
               have hni := hout (by omega)
               refine step _ _ ?_ (fun t ht => by rw [axu_row (by omega), axu_row (by omega)]; exact hJ t ht) (by rw [axu_j (by decide), axu_a (by omega)]; exact s1) rfl
               rw [if_neg hni]
               exact shS_name hS rfl)
            | (rw [axu_a (show s ≠ s + 1 by omega)]
               have hni := hin (by omega)
               refine step _ _ ?_ hJ s1 rfl
               rw [if_pos hni]
               exact hS)
          · refine x_aload_n (pc := 120) hC dX8_addPart_120 rfl ?_
            refine x_getO (pc := 121) hC gf_X8_15 dX8_addPart_121 hs.1 hs.2.2.1 ?_
            refine x_aload_n (pc := 124) hC dX8_addPart_124 rfl ?_
            refine x_getI (pc := 125) hC gf_X8_22 dX8_addPart_125 hs.1 ?_
            refine x_iload_n (pc := 128) hC dX8_addPart_128 rfl ?_
            refine x_iast (pc := 129) hC dX8_addPart_129 hs.2.2.2.1 (by omega) (by rw [hs.2.2.2.2]; omega) ?_
            refine x_aload_n (pc := 130) hC dX8_addPart_130 rfl ?_
            refine x_dup (pc := 131) hC dX8_addPart_131 rfl ?_
            refine x_getI (pc := 132) hC gf_X8_22 dX8_addPart_132 hs.1 ?_
            refine x_iconst (pc := 135) hC dX8_addPart_135 ?_
            refine x_iadd (pc := 136) hC dX8_addPart_136 ?_
            refine x_putI (pc := 137) hC pf_X8_22 dX8_addPart_137 hs.1 (by decide) ?_
            refine x_aload_n (pc := 140) hC dX8_addPart_140 rfl ?_
            refine x_getO (pc := 141) hC gf_X8_9 dX8_addPart_141 hs.1 hs.2.1.1 ?_
            refine x_aload_n (pc := 144) hC dX8_addPart_144 rfl ?_
            refine x_getI (pc := 145) hC gf_X8_18 dX8_addPart_145 hs.1 ?_
            refine x_iload (pc := 148) hC dX8_addPart_148 rfl ?_
            refine x_iast (pc := 150) hC dX8_addPart_150 hs.2.1.2.1 (by first | omega | (rw [axu_j (by decide), axu_a (by omega)]; omega)) (by rw [hs.2.1.2.2]; first | omega | (rw [axu_j (by decide), axu_a (by omega)]; omega)) ?_
            refine x_aload_n (pc := 151) hC dX8_addPart_151 rfl ?_
            refine x_dup (pc := 152) hC dX8_addPart_152 rfl ?_
            refine x_getI (pc := 153) hC gf_X8_18 dX8_addPart_153 hs.1 ?_
            refine x_iconst (pc := 156) hC dX8_addPart_156 ?_
            refine x_iadd (pc := 157) hC dX8_addPart_157 ?_
            refine x_putI (pc := 158) hC pf_X8_18 dX8_addPart_158 hs.1 (by decide) ?_
            refine x_iinc (pc := 161) hC dX8_addPart_161 rfl ?_
            dsimp only [List.set]
            refine x_goto (pc := 164) hC 62 dX8_addPart_164 (by decide) ?_
            first
            | (rw [axu_a (show s ≠ s + 2 by omega), axu_a (show s ≠ s + 1 by omega)]
               have hni := hout (by omega)
               refine step _ _ ?_ (fun t ht => by rw [axu_row (by omega), axu_row (by omega)]; exact hJ t ht) (by rw [axu_j (by decide), axu_a (by omega)]; exact s1) rfl
               rw [if_neg hni]
               exact shS_name hS rfl)
            | (rw [axu_a (show s ≠ s + 1 by omega)]
               have hni := hin (by omega)
               refine step _ _ ?_ hJ s1 rfl
               rw [if_pos hni]
               exact hS)
        induction c with
        | zero =>
          intro y hc2 y0 y1 hno
          refine x_iload (pc := 85) hC dX8_addPart_85 rfl ?_
          refine x_aload_n (pc := 87) hC dX8_addPart_87 rfl ?_
          refine x_getI (pc := 88) hC gf_X8_22 dX8_addPart_88 hs.1 ?_
          refine x_icmp_ge (pc := 91) hC 111 dX8_addPart_91 (by decide) (by omega) (by omega) (fun b91 => ?_) (fun b91 => ?_)
          · have hni : I r (I p 1 + x) ∉ F.2 := fun hm => by
              obtain ⟨j, hj⟩ := List.mem_iff_getElem?.mp hm
              rcases Nat.lt_or_ge j F.2.length with h9 | h9
              · exact hno j (by omega) hj
              · rw [List.getElem?_eq_none h9] at hj; simp at hj
            exact put y y0 y1 (by rw [nix_no _ _ hni]; omega) (fun h => by omega) (fun _ => hni)
          · omega
        | succ c ih2 =>
          intro y hc2 y0 y1 hno
          have nx : y < F.2.length → F.2[y.toNat]? = some (J (s + 2) y) := fun h => seg_gt hS.2.2 y0 h
          refine x_iload (pc := 85) hC dX8_addPart_85 rfl ?_
          refine x_aload_n (pc := 87) hC dX8_addPart_87 rfl ?_
          refine x_getI (pc := 88) hC gf_X8_22 dX8_addPart_88 hs.1 ?_
          refine x_icmp_ge (pc := 91) hC 111 dX8_addPart_91 (by decide) (by omega) (by omega) (fun b91 => ?_) (fun b91 => ?_)
          · first
            | (rw [b102] at e1
               exact put y y0 y1 (by rw [nix_at y.toNat F.2 _ (fun j hj => hno j (by omega)) e1]; omega) (fun _ => List.mem_of_getElem? e1) (fun h => by omega))
            | (have hni : I r (I p 1 + x) ∉ F.2 := fun hm => by
                 obtain ⟨j, hj⟩ := List.mem_iff_getElem?.mp hm
                 rcases Nat.lt_or_ge j F.2.length with h9 | h9
                 · exact hno j (by omega) hj
                 · rw [List.getElem?_eq_none h9] at hj; simp at hj
               exact put y y0 y1 (by rw [nix_no _ _ hni]; omega) (fun h => by omega) (fun _ => hni))
          · refine x_aload_n (pc := 94) hC dX8_addPart_94 rfl ?_
            refine x_getO (pc := 95) hC gf_X8_15 dX8_addPart_95 hs.1 hs.2.2.1 ?_
            refine x_iload (pc := 98) hC dX8_addPart_98 rfl ?_
            refine x_iald (pc := 100) hC dX8_addPart_100 hs.2.2.2.1 (by omega) (by rw [hs.2.2.2.2]; omega) ?_
            refine x_iload_n (pc := 101) hC dX8_addPart_101 rfl ?_
            have e1 := nx (by omega)
            have r1 := hfn _ (List.mem_of_getElem? e1)
            refine x_icmp_eq (pc := 102) hC 111 dX8_addPart_102 (by decide) (by omega) (by omega) (fun b102 => ?_) (fun b102 => ?_)
            · first
              | (rw [b102] at e1
                 exact put y y0 y1 (by rw [nix_at y.toNat F.2 _ (fun j hj => hno j (by omega)) e1]; omega) (fun _ => List.mem_of_getElem? e1) (fun h => by omega))
              | (have hni : I r (I p 1 + x) ∉ F.2 := fun hm => by
                   obtain ⟨j, hj⟩ := List.mem_iff_getElem?.mp hm
                   rcases Nat.lt_or_ge j F.2.length with h9 | h9
                   · exact hno j (by omega) hj
                   · rw [List.getElem?_eq_none h9] at hj; simp at hj
                 exact put y y0 y1 (by rw [nix_no _ _ hni]; omega) (fun h => by omega) (fun _ => hni))
            · refine x_iinc (pc := 105) hC dX8_addPart_105 rfl ?_
              dsimp only [List.set]
              refine x_goto (pc := 108) hC 85 dX8_addPart_108 (by decide) ?_
              refine ih2 (y + 1) (by omega) (by omega) (by omega) (fun j hj => ?_)
              by_cases hq9 : j = y.toNat
              · rw [hq9, e1]; intro e; exact b102 (Option.some.inj e)
              · exact hno j (by omega)
      refine x_iload_n (pc := 62) hC dX8_addPart_62 rfl ?_
      refine x_aload_n (pc := 63) hC dX8_addPart_63 rfl ?_
      refine x_getI (pc := 64) hC gf_X8_25 dX8_addPart_64 hpt ?_
      rw [jp]
      refine x_icmp_ge (pc := 67) hC 167 dX8_addPart_67 (by decide) (by omega) (by omega) (fun b67 => ?_) (fun b67 => ?_)
      · refine x_vret (pc := 167) hC rfl dX8_addPart_167 ?_
        have hx : x = L.length := by omega
        subst hx
        refine ⟨⟨rfl, ?_, hJ⟩, rfl, rfl, rfl, rfl⟩
        try rw [hFe] at hS
        rw [Int.toNat_natCast, List.take_length] at hS
        exact hS
      · refine x_aload_n (pc := 70) hC dX8_addPart_70 rfl ?_
        refine x_getO (pc := 71) hC gf_X8_28 dX8_addPart_71 hpt hrr ?_
        refine x_aload_n (pc := 74) hC dX8_addPart_74 rfl ?_
        refine x_getI (pc := 75) hC gf_X8_31 dX8_addPart_75 hpt ?_
        refine x_iload_n (pc := 78) hC dX8_addPart_78 rfl ?_
        refine x_iadd (pc := 79) hC dX8_addPart_79 ?_
        rw [jp]
        refine x_iald (pc := 80) hC dX8_addPart_80 hrt (by omega) (by omega) ?_
        rw [jr]
        refine x_istore_n (pc := 81) hC dX8_addPart_81 (Nat.le_of_ble_eq_true rfl) ?_
        dsimp only [List.set]
        refine x_iconst (pc := 82) hC dX8_addPart_82 ?_
        refine x_istore (pc := 83) hC dX8_addPart_83 (Nat.le_of_ble_eq_true rfl) ?_
        dsimp only [List.set]
        exact search (by omega) _ 0 (Nat.le_refl _) (by omega) (by omega) (fun j hj => by omega)
  refine x_aload_n (pc := 0) hC dX8_addPart_0 rfl ?_
  refine x_getI (pc := 1) hC gf_X8_18 dX8_addPart_1 hs.1 ?_
  refine x_iconst (pc := 4) hC dX8_addPart_4 ?_
  refine x_iadd (pc := 5) hC dX8_addPart_5 ?_
  refine x_aload_n (pc := 6) hC dX8_addPart_6 rfl ?_
  refine x_getI (pc := 7) hC gf_X8_25 dX8_addPart_7 hpt ?_
  refine x_iadd (pc := 10) hC dX8_addPart_10 ?_
  refine x_aload_n (pc := 11) hC dX8_addPart_11 rfl ?_
  refine x_getO (pc := 12) hC gf_X8_9 dX8_addPart_12 hs.1 hs.2.1.1 ?_
  refine x_alen (pc := 15) hC dX8_addPart_15 (by rw [hs.2.1.2.1]; decide) (by rw [hs.2.1.2.1]; decide) ?_
  rw [hs.2.1.2.2, hlen, hq.1.1]
  refine x_icmp_gt (pc := 16) hC 36 dX8_addPart_16 (by decide) (by omega) (by omega) (fun b16 => ?_) (fun b16 => ?_)
  · exfalso; omega
  · refine x_aload_n (pc := 19) hC dX8_addPart_19 rfl ?_
    refine x_getI (pc := 20) hC gf_X8_22 dX8_addPart_20 hs.1 ?_
    refine x_aload_n (pc := 23) hC dX8_addPart_23 rfl ?_
    refine x_getI (pc := 24) hC gf_X8_25 dX8_addPart_24 hpt ?_
    refine x_iadd (pc := 27) hC dX8_addPart_27 ?_
    refine x_aload_n (pc := 28) hC dX8_addPart_28 rfl ?_
    refine x_getO (pc := 29) hC gf_X8_15 dX8_addPart_29 hs.1 hs.2.2.1 ?_
    refine x_alen (pc := 32) hC dX8_addPart_32 (by rw [hs.2.2.2.1]; decide) (by rw [hs.2.2.2.1]; decide) ?_
    rw [hs.2.2.2.2, hlen, hq.2.1]
    refine x_icmp_le (pc := 33) hC 37 dX8_addPart_33 (by decide) (by omega) (by omega) (fun b33 => ?_) (fun b33 => ?_)
    · refine x_aload_n (pc := 37) hC dX8_addPart_37 rfl ?_
      refine x_getO (pc := 38) hC gf_X8_9 dX8_addPart_38 hs.1 hs.2.1.1 ?_
      refine x_aload_n (pc := 41) hC dX8_addPart_41 rfl ?_
      refine x_getI (pc := 42) hC gf_X8_18 dX8_addPart_42 hs.1 ?_
      refine x_aload_n (pc := 45) hC dX8_addPart_45 rfl ?_
      refine x_getI (pc := 46) hC gf_X8_25 dX8_addPart_46 hpt ?_
      rw [hlen]
      refine x_iast (pc := 49) hC dX8_addPart_49 hs.2.1.2.1 (by rw [hq.1.1]; omega) (by rw [hs.2.1.2.2, hq.1.1]; omega) ?_
      refine x_aload_n (pc := 50) hC dX8_addPart_50 rfl ?_
      refine x_dup (pc := 51) hC dX8_addPart_51 rfl ?_
      refine x_getI (pc := 52) hC gf_X8_18 dX8_addPart_52 hs.1 ?_
      refine x_iconst (pc := 55) hC dX8_addPart_55 ?_
      refine x_iadd (pc := 56) hC dX8_addPart_56 ?_
      refine x_putI (pc := 57) hC pf_X8_18 dX8_addPart_57 hs.1 (by decide) ?_
      refine x_iconst (pc := 60) hC dX8_addPart_60 ?_
      refine x_istore_n (pc := 61) hC dX8_addPart_61 (Nat.le_of_ble_eq_true rfl) ?_
      dsimp only [List.set]
      rw [axu_a (show s ≠ s + 1 by omega)]
      refine loop _ 0 _ _ _ (Nat.le_refl _) (by omega) (by omega) (fun t ht => by rw [axu_row (by omega), axu_row (by omega)]) ?_
      exact shS_push hq rfl
    · exfalso; omega

