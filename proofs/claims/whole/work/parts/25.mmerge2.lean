/-! THE REFERENCE: merge, swaps, paths -/
/-- what lives on from call to call has stayed -/
def lvE (I J : Nat → Int → Int) (o : Nat) : Prop := (∀ q, (o < q ∧ q < o + 5) ∨ q = o + 7 ∨ (o + 20 ≤ q ∧ q ≠ o + 28) ∨ q < o → J q = I q) ∧ (∀ j, j < 384 → J (o + 5) j = I (o + 5) j) ∧ (∀ j, j < 24 → J (o + 6) j = I (o + 6) j) ∧ (∀ k, k < 13 ∨ k = 30 ∨ k = 35 ∨ (40 ≤ k ∧ k < 46) ∨ k = 47 → J o k = I o k) ∧ (I o 40 ≠ 0 → J (o + 28) = I (o + 28) ∧ J o 46 = I o 46)
theorem scr.lvE {I J : Nat → Int → Int} {o : Nat} (h : scr I J o) : lvE I J o := ⟨fun q a => h.1 q (by omega) (by omega), fun j _ => by rw [h.1 (o + 5) (by omega) (by omega)], fun j _ => by rw [h.1 (o + 6) (by omega) (by omega)], fun k a => h.2 k (by unfold sfd; omega), fun _ => ⟨h.1 _ (by omega) (by omega), h.2 46 (by unfold sfd; omega)⟩⟩
/-- nothing outside the reference has changed -/
def outE (I J : Nat → Int → Int) (o : Nat) : Prop := ∀ q, q < o ∨ o + 37 ≤ q → J q = I q
theorem scr.outE {I J : Nat → Int → Int} {o : Nat} (h : scr I J o) : outE I J o := fun q a => h.1 q (by omega) (by omega)
def mgR (I : Nat → Int → Int) (o : Nat) (a b t w : Int) : Int := if (0 ≤ a ∧ a < I o 2) ∧ (0 ≤ b ∧ b < I o 2) ∧ 0 ≤ t ∧ t < I o 2 then (if (0 ≤ w ∧ w ≤ 2) ∨ (10 ≤ w ∧ w ≤ 25) then (if w = 0 then (mrg (rsL I o) (rwI I o a) (I (o + 6) a) (rwI I o b) (I (o + 6) b) (rwI I o t) (I (o + 6) t)).2.1 else if w = 1 then (mrg (rsL I o) (rwI I o a) (I (o + 6) a) (rwI I o b) (I (o + 6) b) (rwI I o t) (I (o + 6) t)).2.2.length else if (mrg (rsL I o) (rwI I o a) (I (o + 6) a) (rwI I o b) (I (o + 6) b) (rwI I o t) (I (o + 6) t)).2.2.length > 0 then -9 else if w = 2 then (mrg (rsL I o) (rwI I o a) (I (o + 6) a) (rwI I o b) (I (o + 6) b) (rwI I o t) (I (o + 6) t)).1.length else atO (mrg (rsL I o) (rwI I o a) (I (o + 6) a) (rwI I o b) (I (o + 6) b) (rwI I o t) (I (o + 6) t)).1 (w - 10)) else -2) else -1
theorem rM_at {J : Nat → Int → Int} {o : Nat} {L : List Int} (h : rM J o L) {k : Int} (h0 : 0 ≤ k) : atO L k = if k < J o 21 then J (o + 15) k else -9 := by
  have h9 := atO_seg (f := J (o + 15)) (i := 0) (j := L.length) (k := k) (by omega) h0
  rw [h.2] at h9
  rw [h9, h.1, Int.zero_add, Int.sub_zero]

set_option maxHeartbeats 4000000 in
set_option maxRecDepth 100000 in
theorem m_merge {G : ax_G} {T : Nat → Nat} {N : Nat → Int} {I : Nat → Int → Int} {R : Nat → Int → Option Nat} {z o : Nat} (M : axMo T N R o) {a b t w : Int} (hm : miC I o) (hR : miR I o) (ha : ax_r a) (hb : ax_r b) (ht : ax_r t) (hw : ax_r w) : axEx G YX12_merge 6 [vR o, vI a, vI b, vI t, vI w] T N I R z (fun r1 I1 => r1 = some (vI (mgR I o a b t w)) ∧ scr I I1 o) := by

  refine ax_enter (by decide) (Nat.le_of_ble_eq_true rfl) (ax_cat rfl) (fun f hC => ?_)
  show axX G f 0 0 _ 0 [vR o, vI a, vI b, vI t, vI w] [] T N I R z 0 0
  have hmm := hm.1
  refine x_aload_n (pc := 0) hC dX12_merge_0 rfl ?_
  refine x_iload_n (pc := 1) hC dX12_merge_1 rfl ?_
  refine x_mV (pc := 2) hC cv_X12_171 dX12_merge_2 (m_isCommit M ha (by omega)) M.1 rfl (by decide) rfl rfl (Nat.le_of_ble_eq_true rfl) ?_
  refine x_ifB_eq (pc := 5) hC 24 dX12_merge_5 (by decide) (fun b5 => ?_) (fun b5 => ?_)
  · refine x_iconst (pc := 24) hC dX12_merge_24 ?_
    refine x_iret (pc := 25) hC rfl dX12_merge_25 ?_
    refine ⟨⟨?_, scr.rf⟩, rfl, rfl, rfl, rfl⟩
    unfold mgR
    rw [if_neg (by omega)]
  · refine x_aload_n (pc := 8) hC dX12_merge_8 rfl ?_
    refine x_iload_n (pc := 9) hC dX12_merge_9 rfl ?_
    refine x_mV (pc := 10) hC cv_X12_171 dX12_merge_10 (m_isCommit M hb (by omega)) M.1 rfl (by decide) rfl rfl (Nat.le_of_ble_eq_true rfl) ?_
    refine x_ifB_eq (pc := 13) hC 24 dX12_merge_13 (by decide) (fun b13 => ?_) (fun b13 => ?_)
    · refine x_iconst (pc := 24) hC dX12_merge_24 ?_
      refine x_iret (pc := 25) hC rfl dX12_merge_25 ?_
      refine ⟨⟨?_, scr.rf⟩, rfl, rfl, rfl, rfl⟩
      unfold mgR
      rw [if_neg (by omega)]
    · refine x_aload_n (pc := 16) hC dX12_merge_16 rfl ?_
      refine x_iload_n (pc := 17) hC dX12_merge_17 rfl ?_
      refine x_mV (pc := 18) hC cv_X12_171 dX12_merge_18 (m_isCommit M ht (by omega)) M.1 rfl (by decide) rfl rfl (Nat.le_of_ble_eq_true rfl) ?_
      refine x_ifB_ne (pc := 21) hC 26 dX12_merge_21 (by decide) (fun b21 => ?_) (fun b21 => ?_)
      · refine x_iload (pc := 26) hC dX12_merge_26 rfl ?_
        refine x_iconst (pc := 28) hC dX12_merge_28 ?_
        refine x_iconst (pc := 29) hC dX12_merge_29 ?_
        refine x_mS (pc := 30) hC cs_X12_139 dX12_merge_30 (m_within hw (by decide) (by decide)) rfl (by decide) rfl rfl (Nat.le_of_ble_eq_true rfl) ?_
        refine x_ifB_ne (pc := 33) hC 51 dX12_merge_33 (by decide) (fun b33 => ?_) (fun b33 => ?_)
        · refine x_aload_n (pc := 51) hC dX12_merge_51 rfl ?_
          refine x_iload_n (pc := 52) hC dX12_merge_52 rfl ?_
          refine x_iload_n (pc := 53) hC dX12_merge_53 rfl ?_
          refine x_iload_n (pc := 54) hC dX12_merge_54 rfl ?_
          refine x_mVx (pc := 55) hC cv_X12_204 dX12_merge_55 (m_merges M hm.2.1 hR (by omega) (by omega) (by omega) rfl rfl rfl) M.1 rfl (by decide) rfl rfl (Nat.le_of_ble_eq_true rfl) ?_
          rintro v J ⟨rfl, hJ, ⟨hM1, hM2, hM3, -⟩, hM5, hM6, hM7, -⟩
          dsimp only [Option.toList, List.nil_append]
          have hG : mgR I o a b t w = (if w = 0 then (mrg (rsL I o) (rwI I o a) (I (o + 6) a) (rwI I o b) (I (o + 6) b) (rwI I o t) (I (o + 6) t)).2.1 else if w = 1 then (mrg (rsL I o) (rwI I o a) (I (o + 6) a) (rwI I o b) (I (o + 6) b) (rwI I o t) (I (o + 6) t)).2.2.length else if (mrg (rsL I o) (rwI I o a) (I (o + 6) a) (rwI I o b) (I (o + 6) b) (rwI I o t) (I (o + 6) t)).2.2.length > 0 then -9 else if w = 2 then (mrg (rsL I o) (rwI I o a) (I (o + 6) a) (rwI I o b) (I (o + 6) b) (rwI I o t) (I (o + 6) t)).1.length else atO (mrg (rsL I o) (rwI I o a) (I (o + 6) a) (rwI I o b) (I (o + 6) b) (rwI I o t) (I (o + 6) t)).1 (w - 10)) := by
            unfold mgR
            rw [if_pos ⟨b5, b13, b21⟩, if_pos (by omega)]
          have hM1l := hM1.1
          obtain ⟨res, hres⟩ : ∃ q, q = (mrg (rsL I o) (rwI I o a) (I (o + 6) a) (rwI I o b) (I (o + 6) b) (rwI I o t) (I (o + 6) t)) := ⟨_, rfl⟩
          simp only [← hres] at hG hM1 hM1l hM2 hM3 hM5 hM6 hM7
          refine x_iload (pc := 58) hC dX12_merge_58 rfl ?_
          refine x_iconst (pc := 60) hC dX12_merge_60 ?_
          refine x_icmp_ge (pc := 61) hC 81 dX12_merge_61 (by decide) (by omega) (by omega) (fun b61 => ?_) (fun b61 => ?_)
          · refine x_aload_n (pc := 81) hC dX12_merge_81 rfl ?_
            refine x_getI (pc := 82) hC gf_X12_236 dX12_merge_82 M.1 ?_
            refine x_if_le (pc := 85) hC 91 dX12_merge_85 (by decide) (by omega) (fun b85 => ?_) (fun b85 => ?_)
            · refine x_iload (pc := 91) hC dX12_merge_91 rfl ?_
              refine x_iconst (pc := 93) hC dX12_merge_93 ?_
              refine x_icmp_ne (pc := 94) hC 104 dX12_merge_94 (by decide) (by omega) (by omega) (fun b94 => ?_) (fun b94 => ?_)
              · refine x_iload (pc := 104) hC dX12_merge_104 rfl ?_
                refine x_bipush (pc := 106) hC dX12_merge_106 (by decide) ?_
                refine x_isub (pc := 108) hC dX12_merge_108 ?_
                refine x_aload_n (pc := 109) hC dX12_merge_109 rfl ?_
                refine x_getI (pc := 110) hC gf_X12_210 dX12_merge_110 M.1 ?_
                refine x_icmp_ge (pc := 113) hC 129 dX12_merge_113 (by decide) (by omega) (by omega) (fun b113 => ?_) (fun b113 => ?_)
                · refine x_bipush (pc := 129) hC dX12_merge_129 (by decide) ?_
                  refine x_iret (pc := 131) hC rfl dX12_merge_131 ?_
                  refine ⟨⟨?_, hJ⟩, rfl, rfl, rfl, rfl⟩
                  rw [hG, if_neg (by omega), if_neg (by omega), if_neg (by omega)]
                  first
                  | rw [if_pos (by omega), hM1l]
                  | (rw [if_neg (by omega), rM_at hM1 (by omega)]; first | (rw [if_pos (by omega)]; done) | (rw [if_neg (by omega)]; done))
                · refine x_aload_n (pc := 116) hC dX12_merge_116 rfl ?_
                  refine x_getO (pc := 117) hC gf_X12_52 dX12_merge_117 M.1 (mo_result M).1 ?_
                  refine x_iload (pc := 120) hC dX12_merge_120 rfl ?_
                  refine x_bipush (pc := 122) hC dX12_merge_122 (by decide) ?_
                  refine x_isub (pc := 124) hC dX12_merge_124 ?_
                  refine x_iald (pc := 125) hC dX12_merge_125 (mo_result M).2.1 (by omega) (by rw [(mo_result M).2.2]; omega) ?_
                  refine x_goto (pc := 126) hC 131 dX12_merge_126 (by decide) ?_
                  refine x_iret (pc := 131) hC rfl dX12_merge_131 ?_
                  refine ⟨⟨?_, hJ⟩, rfl, rfl, rfl, rfl⟩
                  rw [hG, if_neg (by omega), if_neg (by omega), if_neg (by omega)]
                  first
                  | rw [if_pos (by omega), hM1l]
                  | (rw [if_neg (by omega), rM_at hM1 (by omega)]; first | (rw [if_pos (by omega)]; done) | (rw [if_neg (by omega)]; done))
              · refine x_aload_n (pc := 97) hC dX12_merge_97 rfl ?_
                refine x_getI (pc := 98) hC gf_X12_210 dX12_merge_98 M.1 ?_
                refine x_goto (pc := 101) hC 131 dX12_merge_101 (by decide) ?_
                refine x_iret (pc := 131) hC rfl dX12_merge_131 ?_
                refine ⟨⟨?_, hJ⟩, rfl, rfl, rfl, rfl⟩
                rw [hG, if_neg (by omega), if_neg (by omega), if_neg (by omega)]
                first
                | rw [if_pos (by omega), hM1l]
                | (rw [if_neg (by omega), rM_at hM1 (by omega)]; first | (rw [if_pos (by omega)]; done) | (rw [if_neg (by omega)]; done))
            · refine x_bipush (pc := 88) hC dX12_merge_88 (by decide) ?_
              refine x_iret (pc := 90) hC rfl dX12_merge_90 ?_
              refine ⟨⟨?_, hJ⟩, rfl, rfl, rfl, rfl⟩
              rw [hG, if_neg (by omega), if_neg (by omega), if_pos (by omega)]
          · refine x_iload (pc := 64) hC dX12_merge_64 rfl ?_
            refine x_if_ne (pc := 66) hC 76 dX12_merge_66 (by decide) (by omega) (fun b66 => ?_) (fun b66 => ?_)
            · refine x_aload_n (pc := 76) hC dX12_merge_76 rfl ?_
              refine x_getI (pc := 77) hC gf_X12_236 dX12_merge_77 M.1 ?_
              refine x_iret (pc := 80) hC rfl dX12_merge_80 ?_
              refine ⟨⟨?_, hJ⟩, rfl, rfl, rfl, rfl⟩
              rw [hG]
              first | rw [if_pos (by omega), hM2] | rw [if_neg (by omega), if_pos (by omega), hM3]
            · refine x_aload_n (pc := 69) hC dX12_merge_69 rfl ?_
              refine x_getI (pc := 70) hC gf_X12_207 dX12_merge_70 M.1 ?_
              refine x_goto (pc := 73) hC 80 dX12_merge_73 (by decide) ?_
              refine x_iret (pc := 80) hC rfl dX12_merge_80 ?_
              refine ⟨⟨?_, hJ⟩, rfl, rfl, rfl, rfl⟩
              rw [hG]
              first | rw [if_pos (by omega), hM2] | rw [if_neg (by omega), if_pos (by omega), hM3]
        · refine x_iload (pc := 36) hC dX12_merge_36 rfl ?_
          refine x_bipush (pc := 38) hC dX12_merge_38 (by decide) ?_
          refine x_bipush (pc := 40) hC dX12_merge_40 (by decide) ?_
          refine x_mS (pc := 42) hC cs_X12_139 dX12_merge_42 (m_within hw (by decide) (by decide)) rfl (by decide) rfl rfl (Nat.le_of_ble_eq_true rfl) ?_
          refine x_ifB_ne (pc := 45) hC 51 dX12_merge_45 (by decide) (fun b45 => ?_) (fun b45 => ?_)
          · refine x_aload_n (pc := 51) hC dX12_merge_51 rfl ?_
            refine x_iload_n (pc := 52) hC dX12_merge_52 rfl ?_
            refine x_iload_n (pc := 53) hC dX12_merge_53 rfl ?_
            refine x_iload_n (pc := 54) hC dX12_merge_54 rfl ?_
            refine x_mVx (pc := 55) hC cv_X12_204 dX12_merge_55 (m_merges M hm.2.1 hR (by omega) (by omega) (by omega) rfl rfl rfl) M.1 rfl (by decide) rfl rfl (Nat.le_of_ble_eq_true rfl) ?_
            rintro v J ⟨rfl, hJ, ⟨hM1, hM2, hM3, -⟩, hM5, hM6, hM7, -⟩
            dsimp only [Option.toList, List.nil_append]
            have hG : mgR I o a b t w = (if w = 0 then (mrg (rsL I o) (rwI I o a) (I (o + 6) a) (rwI I o b) (I (o + 6) b) (rwI I o t) (I (o + 6) t)).2.1 else if w = 1 then (mrg (rsL I o) (rwI I o a) (I (o + 6) a) (rwI I o b) (I (o + 6) b) (rwI I o t) (I (o + 6) t)).2.2.length else if (mrg (rsL I o) (rwI I o a) (I (o + 6) a) (rwI I o b) (I (o + 6) b) (rwI I o t) (I (o + 6) t)).2.2.length > 0 then -9 else if w = 2 then (mrg (rsL I o) (rwI I o a) (I (o + 6) a) (rwI I o b) (I (o + 6) b) (rwI I o t) (I (o + 6) t)).1.length else atO (mrg (rsL I o) (rwI I o a) (I (o + 6) a) (rwI I o b) (I (o + 6) b) (rwI I o t) (I (o + 6) t)).1 (w - 10)) := by
              unfold mgR
              rw [if_pos ⟨b5, b13, b21⟩, if_pos (by omega)]
            have hM1l := hM1.1
            obtain ⟨res, hres⟩ : ∃ q, q = (mrg (rsL I o) (rwI I o a) (I (o + 6) a) (rwI I o b) (I (o + 6) b) (rwI I o t) (I (o + 6) t)) := ⟨_, rfl⟩
            simp only [← hres] at hG hM1 hM1l hM2 hM3 hM5 hM6 hM7
            refine x_iload (pc := 58) hC dX12_merge_58 rfl ?_
            refine x_iconst (pc := 60) hC dX12_merge_60 ?_
            refine x_icmp_ge (pc := 61) hC 81 dX12_merge_61 (by decide) (by omega) (by omega) (fun b61 => ?_) (fun b61 => ?_)
            · refine x_aload_n (pc := 81) hC dX12_merge_81 rfl ?_
              refine x_getI (pc := 82) hC gf_X12_236 dX12_merge_82 M.1 ?_
              refine x_if_le (pc := 85) hC 91 dX12_merge_85 (by decide) (by omega) (fun b85 => ?_) (fun b85 => ?_)
              · refine x_iload (pc := 91) hC dX12_merge_91 rfl ?_
                refine x_iconst (pc := 93) hC dX12_merge_93 ?_
                refine x_icmp_ne (pc := 94) hC 104 dX12_merge_94 (by decide) (by omega) (by omega) (fun b94 => ?_) (fun b94 => ?_)
                · refine x_iload (pc := 104) hC dX12_merge_104 rfl ?_
                  refine x_bipush (pc := 106) hC dX12_merge_106 (by decide) ?_
                  refine x_isub (pc := 108) hC dX12_merge_108 ?_
                  refine x_aload_n (pc := 109) hC dX12_merge_109 rfl ?_
                  refine x_getI (pc := 110) hC gf_X12_210 dX12_merge_110 M.1 ?_
                  refine x_icmp_ge (pc := 113) hC 129 dX12_merge_113 (by decide) (by omega) (by omega) (fun b113 => ?_) (fun b113 => ?_)
                  · refine x_bipush (pc := 129) hC dX12_merge_129 (by decide) ?_
                    refine x_iret (pc := 131) hC rfl dX12_merge_131 ?_
                    refine ⟨⟨?_, hJ⟩, rfl, rfl, rfl, rfl⟩
                    rw [hG, if_neg (by omega), if_neg (by omega), if_neg (by omega)]
                    first
                    | rw [if_pos (by omega), hM1l]
                    | (rw [if_neg (by omega), rM_at hM1 (by omega)]; first | (rw [if_pos (by omega)]; done) | (rw [if_neg (by omega)]; done))
                  · refine x_aload_n (pc := 116) hC dX12_merge_116 rfl ?_
                    refine x_getO (pc := 117) hC gf_X12_52 dX12_merge_117 M.1 (mo_result M).1 ?_
                    refine x_iload (pc := 120) hC dX12_merge_120 rfl ?_
                    refine x_bipush (pc := 122) hC dX12_merge_122 (by decide) ?_
                    refine x_isub (pc := 124) hC dX12_merge_124 ?_
                    refine x_iald (pc := 125) hC dX12_merge_125 (mo_result M).2.1 (by omega) (by rw [(mo_result M).2.2]; omega) ?_
                    refine x_goto (pc := 126) hC 131 dX12_merge_126 (by decide) ?_
                    refine x_iret (pc := 131) hC rfl dX12_merge_131 ?_
                    refine ⟨⟨?_, hJ⟩, rfl, rfl, rfl, rfl⟩
                    rw [hG, if_neg (by omega), if_neg (by omega), if_neg (by omega)]
                    first
                    | rw [if_pos (by omega), hM1l]
                    | (rw [if_neg (by omega), rM_at hM1 (by omega)]; first | (rw [if_pos (by omega)]; done) | (rw [if_neg (by omega)]; done))
                · refine x_aload_n (pc := 97) hC dX12_merge_97 rfl ?_
                  refine x_getI (pc := 98) hC gf_X12_210 dX12_merge_98 M.1 ?_
                  refine x_goto (pc := 101) hC 131 dX12_merge_101 (by decide) ?_
                  refine x_iret (pc := 131) hC rfl dX12_merge_131 ?_
                  refine ⟨⟨?_, hJ⟩, rfl, rfl, rfl, rfl⟩
                  rw [hG, if_neg (by omega), if_neg (by omega), if_neg (by omega)]
                  first
                  | rw [if_pos (by omega), hM1l]
                  | (rw [if_neg (by omega), rM_at hM1 (by omega)]; first | (rw [if_pos (by omega)]; done) | (rw [if_neg (by omega)]; done))
              · refine x_bipush (pc := 88) hC dX12_merge_88 (by decide) ?_
                refine x_iret (pc := 90) hC rfl dX12_merge_90 ?_
                refine ⟨⟨?_, hJ⟩, rfl, rfl, rfl, rfl⟩
                rw [hG, if_neg (by omega), if_neg (by omega), if_pos (by omega)]
            · refine x_iload (pc := 64) hC dX12_merge_64 rfl ?_
              refine x_if_ne (pc := 66) hC 76 dX12_merge_66 (by decide) (by omega) (fun b66 => ?_) (fun b66 => ?_)
              · refine x_aload_n (pc := 76) hC dX12_merge_76 rfl ?_
                refine x_getI (pc := 77) hC gf_X12_236 dX12_merge_77 M.1 ?_
                refine x_iret (pc := 80) hC rfl dX12_merge_80 ?_
                refine ⟨⟨?_, hJ⟩, rfl, rfl, rfl, rfl⟩
                rw [hG]
                first | rw [if_pos (by omega), hM2] | rw [if_neg (by omega), if_pos (by omega), hM3]
              · refine x_aload_n (pc := 69) hC dX12_merge_69 rfl ?_
                refine x_getI (pc := 70) hC gf_X12_207 dX12_merge_70 M.1 ?_
                refine x_goto (pc := 73) hC 80 dX12_merge_73 (by decide) ?_
                refine x_iret (pc := 80) hC rfl dX12_merge_80 ?_
                refine ⟨⟨?_, hJ⟩, rfl, rfl, rfl, rfl⟩
                rw [hG]
                first | rw [if_pos (by omega), hM2] | rw [if_neg (by omega), if_pos (by omega), hM3]
          · refine x_bipush (pc := 48) hC dX12_merge_48 (by decide) ?_
            refine x_iret (pc := 50) hC rfl dX12_merge_50 ?_
            refine ⟨⟨?_, scr.rf⟩, rfl, rfl, rfl, rfl⟩
            unfold mgR
            rw [if_pos ⟨b5, b13, b21⟩, if_neg (by omega)]
      · refine x_iconst (pc := 24) hC dX12_merge_24 ?_
        refine x_iret (pc := 25) hC rfl dX12_merge_25 ?_
        refine ⟨⟨?_, scr.rf⟩, rfl, rfl, rfl, rfl⟩
        unfold mgR
        rw [if_neg (by omega)]

set_option maxHeartbeats 4000000 in
set_option maxRecDepth 100000 in
theorem m_against {G : ax_G} {T : Nat → Nat} {N : Nat → Int} {I : Nat → Int → Int} {R : Nat → Int → Option Nat} {z o : Nat} (M : axMo T N R o) {c rw : Int} (hl : lnOk I o) (hR : miR I o) (hc : 0 ≤ c ∧ c < 24) (hrw : 0 ≤ rw ∧ rw < 26) (hp : 0 ≤ I (o + 2) c ∧ I (o + 2) c < 24) : axEx G YX12_against 6 [vR o, vI c, vI rw] T N I R z (fun r1 I1 => r1 = some (vI (if (mrg (rsL I o) (rwI I o (I (o + 2) c)) (I (o + 6) (I (o + 2) c)) (rwI I o rw) (I (o + 6) rw) (rwI I o c) (I (o + 6) c)).2.2.length > 0 then 1 else if (mrg (rsL I o) (rwI I o (I (o + 2) c)) (I (o + 6) (I (o + 2) c)) (rwI I o rw) (I (o + 6) rw) (rwI I o c) (I (o + 6) c)).1.length > 16 then 2 else 0)) ∧ scr I I1 o ∧ mgM I1 o (mrg (rsL I o) (rwI I o (I (o + 2) c)) (I (o + 6) (I (o + 2) c)) (rwI I o rw) (I (o + 6) rw) (rwI I o c) (I (o + 6) c)) ∧ (mrg (rsL I o) (rwI I o (I (o + 2) c)) (I (o + 6) (I (o + 2) c)) (rwI I o rw) (I (o + 6) rw) (rwI I o c) (I (o + 6) c)).1.length ≤ 160 ∧ isLn (mrg (rsL I o) (rwI I o (I (o + 2) c)) (I (o + 6) (I (o + 2) c)) (rwI I o rw) (I (o + 6) rw) (rwI I o c) (I (o + 6) c)).1 ∧ (mrg (rsL I o) (rwI I o (I (o + 2) c)) (I (o + 6) (I (o + 2) c)) (rwI I o rw) (I (o + 6) rw) (rwI I o c) (I (o + 6) c)).2.2.length ≤ 17 ∧ ∀ g ∈ (mrg (rsL I o) (rwI I o (I (o + 2) c)) (I (o + 6) (I (o + 2) c)) (rwI I o rw) (I (o + 6) rw) (rwI I o c) (I (o + 6) c)).2.2, gOk g) := by

  refine ax_enter (by decide) (Nat.le_of_ble_eq_true rfl) (ax_cat rfl) (fun f hC => ?_)
  show axX G f 0 0 _ 0 [vR o, vI c, vI rw] [] T N I R z 0 0
  refine x_aload_n (pc := 0) hC dX12_against_0 rfl ?_
  refine x_aload_n (pc := 1) hC dX12_against_1 rfl ?_
  refine x_getO (pc := 2) hC gf_X12_13 dX12_against_2 M.1 (mo_parent M).1 ?_
  refine x_iload_n (pc := 5) hC dX12_against_5 rfl ?_
  refine x_iald (pc := 6) hC dX12_against_6 (mo_parent M).2.1 (by omega) (by rw [(mo_parent M).2.2]; omega) ?_
  refine x_iload_n (pc := 7) hC dX12_against_7 rfl ?_
  refine x_iload_n (pc := 8) hC dX12_against_8 rfl ?_
  refine x_mVx (pc := 9) hC cv_X12_204 dX12_against_9 (m_merges M hl hR (by omega) hrw (by omega) rfl rfl rfl) M.1 rfl (by decide) rfl rfl (Nat.le_of_ble_eq_true rfl) ?_
  rintro v J ⟨rfl, hJ, hM, hM5, hM6, hM7, hM8⟩
  dsimp only [Option.toList, List.nil_append]
  have hM3 := hM.2.2.1
  have hM1l := hM.1.1
  refine x_aload_n (pc := 12) hC dX12_against_12 rfl ?_
  refine x_getI (pc := 13) hC gf_X12_236 dX12_against_13 M.1 ?_
  refine x_if_le (pc := 16) hC 23 dX12_against_16 (by decide) (by omega) (fun b16 => ?_) (fun b16 => ?_)
  · refine x_aload_n (pc := 23) hC dX12_against_23 rfl ?_
    refine x_getI (pc := 24) hC gf_X12_210 dX12_against_24 M.1 ?_
    refine x_bipush (pc := 27) hC dX12_against_27 (by decide) ?_
    refine x_icmp_le (pc := 29) hC 36 dX12_against_29 (by decide) (by omega) (by omega) (fun b29 => ?_) (fun b29 => ?_)
    · refine x_iconst (pc := 36) hC dX12_against_36 ?_
      refine x_iret (pc := 37) hC rfl dX12_against_37 ?_
      refine ⟨⟨?_, hJ, hM, hM5, hM6, hM7, hM8⟩, rfl, rfl, rfl, rfl⟩
      first
      | rw [if_pos (by omega)]
      | rw [if_neg (by omega), if_pos (by omega)]
      | rw [if_neg (by omega), if_neg (by omega)]
    · refine x_iconst (pc := 32) hC dX12_against_32 ?_
      refine x_goto (pc := 33) hC 37 dX12_against_33 (by decide) ?_
      refine x_iret (pc := 37) hC rfl dX12_against_37 ?_
      refine ⟨⟨?_, hJ, hM, hM5, hM6, hM7, hM8⟩, rfl, rfl, rfl, rfl⟩
      first
      | rw [if_pos (by omega)]
      | rw [if_neg (by omega), if_pos (by omega)]
      | rw [if_neg (by omega), if_neg (by omega)]
  · refine x_iconst (pc := 19) hC dX12_against_19 ?_
    refine x_goto (pc := 20) hC 37 dX12_against_20 (by decide) ?_
    refine x_iret (pc := 37) hC rfl dX12_against_37 ?_
    refine ⟨⟨?_, hJ, hM, hM5, hM6, hM7, hM8⟩, rfl, rfl, rfl, rfl⟩
    first
    | rw [if_pos (by omega)]
    | rw [if_neg (by omega), if_pos (by omega)]
    | rw [if_neg (by omega), if_neg (by omega)]

def fkR (I : Nat → Int → Int) (o : Nat) (c d : Int) : Int := if (0 ≤ c ∧ c < I o 2) ∧ 0 ≤ d ∧ d < I o 2 then ((path (I (o + 2)) c).find? (fun x => decide (x ∈ path (I (o + 2)) d))).getD 0 else -1
def ahR (I : Nat → Int → Int) (o : Nat) (c d : Int) : Int := if (0 ≤ c ∧ c < I o 2) ∧ 0 ≤ d ∧ d < I o 2 then (((path (I (o + 2)) c).filter (fun x => decide (x ∉ path (I (o + 2)) d))).length : Int) else -1
theorem zero_in {p : Int → Int} {m : Int} (h : PW p m) : ∀ (n : Nat) (x : Int), x.toNat ≤ n → 0 ≤ x → x < m → (0 : Int) ∈ path p x := by
  intro n
  induction n with
  | zero =>
    intro x hn h0 hm
    have : x = 0 := by omega
    subst this
    rw [path_0 h]; simp
  | succ n ih =>
    intro x hn h0 hm
    by_cases hx : x = 0
    · subst hx; rw [path_0 h]; simp
    · have := h.2 x (by omega) hm
      rw [path_cons h (by omega) hm]
      exact List.mem_cons_of_mem _ (ih (p x) (by omega) (by omega) (by omega))
/-- the path from its end on: what lies on it, by their numbers -/
theorem path_rev {p : Int → Int} {m : Int} (h : PW p m) : ∀ (n : Nat) (x : Int), x.toNat ≤ n → 0 ≤ x → x < m → ∀ (k : Int), x < k → (seg id 0 k).filter (fun y => decide (y ∈ path p x)) = (path p x).reverse := by
  intro n
  induction n with
  | zero =>
    intro x hn h0 hm k hk
    have : x = 0 := by omega
    subst this
    rw [path_0 h, seg_cons (by omega)]
    simp
    intro y hy
    obtain ⟨j, a, b, rfl⟩ := seg_mem.mp hy
    simp; omega
  | succ n ih =>
    intro x hn h0 hm k hk
    by_cases hx : x = 0
    · subst hx
      rw [path_0 h, seg_cons (by omega)]
      simp
      intro y hy
      obtain ⟨j, a, b, rfl⟩ := seg_mem.mp hy
      simp; omega
    · have hp := h.2 x (by omega) hm
      have hih := ih (p x) (by omega) (by omega) (by omega) x hp.2
      rw [path_cons h (by omega) hm]
      rw [seg_app (i := 0) (j := x) (k := k) h0 (by omega), List.filter_append, seg_cons (i := x) (by omega)]
      have e1 : (seg id 0 x).filter (fun y => decide (y ∈ x :: path p (p x))) = (seg id 0 x).filter (fun y => decide (y ∈ path p (p x))) := by
        apply List.filter_congr
        intro y hy
        obtain ⟨j, a, b, rfl⟩ := seg_mem.mp hy
        have : j ≠ x := by omega
        simp [this]
      have e2 : (seg id (x + 1) k).filter (fun y => decide (y ∈ x :: path p (p x))) = [] := by
        rw [List.filter_eq_nil_iff]
        intro y hy
        obtain ⟨j, a, b, rfl⟩ := seg_mem.mp hy
        simp only [id]
        simp only [decide_eq_true_eq, List.mem_cons, not_or]
        refine ⟨by omega, fun hq => ?_⟩
        have := path_in h _ (p x) j (Nat.le_refl _) (by omega) hq
        omega
      rw [e1, hih, List.filter_cons, if_pos (by simp), e2]
      simp

set_option maxHeartbeats 4000000 in
set_option maxRecDepth 100000 in
theorem m_fork {G : ax_G} {T : Nat → Nat} {N : Nat → Int} {I : Nat → Int → Int} {R : Nat → Int → Option Nat} {z o : Nat} (M : axMo T N R o) {c d : Int} (hm : miC I o) (hcr : ax_r c) (hdr : ax_r d) : axEx G YX12_fork 2 [vR o, vI c, vI d] T N I R z (fun r1 I1 => r1 = some (vI (fkR I o c d)) ∧ I1 = I) := by

  refine ax_enter (by decide) (Nat.le_of_ble_eq_true rfl) (ax_cat rfl) (fun f hC => ?_)
  show axX G f 0 0 _ 0 [vR o, vI c, vI d, vU] [] T N I R z 0 0
  have hmm := hm.1
  have hp := hm.2.2.1
  have loop : (0 ≤ c ∧ c < (I o 2)) → (0 ≤ d ∧ d < (I o 2)) → ∀ (n : Nat) (x : Int), x.toNat ≤ n → 0 ≤ x → x < (I o 2) → (path (I (o + 2)) x).find? (fun x => decide (x ∈ path (I (o + 2)) d)) = (path (I (o + 2)) c).find? (fun x => decide (x ∈ path (I (o + 2)) d)) → axX G f 0 0 (fun r1 T1 N1 I1 R1 z1 => (r1 = some (vI (fkR I o c d)) ∧ I1 = I) ∧ T1 = T ∧ N1 = N ∧ R1 = R ∧ z1 = z) 20 [vR o, vI c, vI d, vI x] [] T N I R z 0 0 := by
    intro hc hd n
    induction n with
    | zero =>
      intro x hn h0 h1 he
      have hx : x = 0 := by omega
      refine x_aload_n (pc := 20) hC dX12_fork_20 rfl ?_
      refine x_iload_n (pc := 21) hC dX12_fork_21 rfl ?_
      refine x_iload_n (pc := 22) hC dX12_fork_22 rfl ?_
      refine x_mV (pc := 23) hC cv_X12_201 dX12_fork_23 (m_isOn M hmm.2 hm.2.2.1 h0 (by omega) hd.1 hd.2) M.1 rfl (by decide) rfl rfl (Nat.le_of_ble_eq_true rfl) ?_
      refine x_ifB_ne (pc := 26) hC 39 dX12_fork_26 (by decide) (fun b26 => ?_) (fun b26 => ?_)
      · refine x_iload_n (pc := 39) hC dX12_fork_39 rfl ?_
        refine x_iret (pc := 40) hC rfl dX12_fork_40 ?_
        refine ⟨⟨?_, rfl⟩, rfl, rfl, rfl, rfl⟩
        unfold fkR
        rw [if_pos ⟨hc, hd⟩, ← he]
        have hcs : ∃ t, path (I (o + 2)) x = x :: t := by
          by_cases hx0 : x = 0
          · exact ⟨[], by rw [hx0]; exact path_0 hp⟩
          · exact ⟨_, path_cons hp (by omega) h1⟩
        obtain ⟨t, ht⟩ := hcs
        rw [ht, List.find?_cons_of_pos (by simpa using b26)]
        rfl
      · exact absurd (show x ∈ path (I (o + 2)) d by rw [hx]; exact zero_in hp _ d (Nat.le_refl _) hd.1 hd.2) (by assumption)
    | succ n ih =>
      intro x hn h0 h1 he
      refine x_aload_n (pc := 20) hC dX12_fork_20 rfl ?_
      refine x_iload_n (pc := 21) hC dX12_fork_21 rfl ?_
      refine x_iload_n (pc := 22) hC dX12_fork_22 rfl ?_
      refine x_mV (pc := 23) hC cv_X12_201 dX12_fork_23 (m_isOn M hmm.2 hm.2.2.1 h0 (by omega) hd.1 hd.2) M.1 rfl (by decide) rfl rfl (Nat.le_of_ble_eq_true rfl) ?_
      refine x_ifB_ne (pc := 26) hC 39 dX12_fork_26 (by decide) (fun b26 => ?_) (fun b26 => ?_)
      · refine x_iload_n (pc := 39) hC dX12_fork_39 rfl ?_
        refine x_iret (pc := 40) hC rfl dX12_fork_40 ?_
        refine ⟨⟨?_, rfl⟩, rfl, rfl, rfl, rfl⟩
        unfold fkR
        rw [if_pos ⟨hc, hd⟩, ← he]
        have hcs : ∃ t, path (I (o + 2)) x = x :: t := by
          by_cases hx0 : x = 0
          · exact ⟨[], by rw [hx0]; exact path_0 hp⟩
          · exact ⟨_, path_cons hp (by omega) h1⟩
        obtain ⟨t, ht⟩ := hcs
        rw [ht, List.find?_cons_of_pos (by simpa using b26)]
        rfl
      · have hx0 : 0 < x := by
          rcases Int.lt_or_eq_of_le h0 with h | h
          · exact h
          · exact absurd (by rw [← h]; exact zero_in hp _ d (Nat.le_refl _) hd.1 hd.2) b26
        have hq := hp.2 x hx0 h1
        refine x_aload_n (pc := 29) hC dX12_fork_29 rfl ?_
        refine x_getO (pc := 30) hC gf_X12_13 dX12_fork_30 M.1 (mo_parent M).1 ?_
        refine x_iload_n (pc := 33) hC dX12_fork_33 rfl ?_
        refine x_iald (pc := 34) hC dX12_fork_34 (mo_parent M).2.1 (by omega) (by rw [(mo_parent M).2.2]; omega) ?_
        refine x_istore_n (pc := 35) hC dX12_fork_35 (Nat.le_of_ble_eq_true rfl) ?_
        dsimp only [List.set]
        refine x_goto (pc := 36) hC 20 dX12_fork_36 (by decide) ?_
        refine ih _ (by omega) (by omega) (by omega) ?_
        rw [← he, path_cons hp hx0 h1, List.find?_cons_of_neg (by simpa using b26)]
  refine x_aload_n (pc := 0) hC dX12_fork_0 rfl ?_
  refine x_iload_n (pc := 1) hC dX12_fork_1 rfl ?_
  refine x_mV (pc := 2) hC cv_X12_171 dX12_fork_2 (m_isCommit M hcr (by omega)) M.1 rfl (by decide) rfl rfl (Nat.le_of_ble_eq_true rfl) ?_
  refine x_ifB_eq (pc := 5) hC 16 dX12_fork_5 (by decide) (fun b5 => ?_) (fun b5 => ?_)
  · refine x_iconst (pc := 16) hC dX12_fork_16 ?_
    refine x_iret (pc := 17) hC rfl dX12_fork_17 ?_
    exact ⟨⟨by unfold fkR; rw [if_neg (by omega)], rfl⟩, rfl, rfl, rfl, rfl⟩
  · refine x_aload_n (pc := 8) hC dX12_fork_8 rfl ?_
    refine x_iload_n (pc := 9) hC dX12_fork_9 rfl ?_
    refine x_mV (pc := 10) hC cv_X12_171 dX12_fork_10 (m_isCommit M hdr (by omega)) M.1 rfl (by decide) rfl rfl (Nat.le_of_ble_eq_true rfl) ?_
    refine x_ifB_ne (pc := 13) hC 18 dX12_fork_13 (by decide) (fun b13 => ?_) (fun b13 => ?_)
    · refine x_iload_n (pc := 18) hC dX12_fork_18 rfl ?_
      refine x_istore_n (pc := 19) hC dX12_fork_19 (Nat.le_of_ble_eq_true rfl) ?_
      dsimp only [List.set]
      exact loop b5 b13 c.toNat c (Nat.le_refl _) b5.1 b5.2 rfl
    · refine x_iconst (pc := 16) hC dX12_fork_16 ?_
      refine x_iret (pc := 17) hC rfl dX12_fork_17 ?_
      exact ⟨⟨by unfold fkR; rw [if_neg (by omega)], rfl⟩, rfl, rfl, rfl, rfl⟩

set_option maxHeartbeats 4000000 in
set_option maxRecDepth 100000 in
theorem m_ahead {G : ax_G} {T : Nat → Nat} {N : Nat → Int} {I : Nat → Int → Int} {R : Nat → Int → Option Nat} {z o : Nat} (M : axMo T N R o) {c d : Int} (hm : miC I o) (hcr : ax_r c) (hdr : ax_r d) : axEx G YX12_ahead 2 [vR o, vI c, vI d] T N I R z (fun r1 I1 => r1 = some (vI (ahR I o c d)) ∧ I1 = I) := by

  refine ax_enter (by decide) (Nat.le_of_ble_eq_true rfl) (ax_cat rfl) (fun f hC => ?_)
  show axX G f 0 0 _ 0 [vR o, vI c, vI d, vU, vU] [] T N I R z 0 0
  have hmm := hm.1
  have hp := hm.2.2.1
  have loop : (0 ≤ c ∧ c < (I o 2)) → (0 ≤ d ∧ d < (I o 2)) → ∀ (n : Nat) (x k : Int), ((I o 2) - x).toNat ≤ n → 0 ≤ x → x ≤ (I o 2) → k = ((seg id 0 x).filter (fun y => decide (y ∈ path (I (o + 2)) c) && decide (y ∉ path (I (o + 2)) d))).length → axX G f 0 0 (fun r1 T1 N1 I1 R1 z1 => (r1 = some (vI (ahR I o c d)) ∧ I1 = I) ∧ T1 = T ∧ N1 = N ∧ R1 = R ∧ z1 = z) 23 [vR o, vI c, vI d, vI k, vI x] [] T N I R z 0 0 := by
    intro hc hd n
    induction n with
    | zero =>
      intro x k hn h0 h1 he
      refine x_iload (pc := 23) hC dX12_ahead_23 rfl ?_
      refine x_aload_n (pc := 25) hC dX12_ahead_25 rfl ?_
      refine x_getI (pc := 26) hC gf_X12_129 dX12_ahead_26 M.1 ?_
      refine x_icmp_ge (pc := 29) hC 66 dX12_ahead_29 (by decide) (by omega) (by omega) (fun b29 => ?_) (fun b29 => ?_)
      · refine x_iload_n (pc := 66) hC dX12_ahead_66 rfl ?_
        refine x_iret (pc := 67) hC rfl dX12_ahead_67 ?_
        have hx : x = (I o 2) := by omega
        refine ⟨⟨?_, rfl⟩, rfl, rfl, rfl, rfl⟩
        unfold ahR
        rw [if_pos ⟨hc, hd⟩, he, hx]
        have hr := path_rev hp _ c (Nat.le_refl _) hc.1 hc.2 ((I o 2)) hc.2
        have h2 : (seg id 0 ((I o 2))).filter (fun y => decide (y ∈ path (I (o + 2)) c) && decide (y ∉ path (I (o + 2)) d)) = ((path (I (o + 2)) c).filter (fun x => decide (x ∉ path (I (o + 2)) d))).reverse := by
          rw [← List.filter_reverse, ← hr, List.filter_filter]
          apply List.filter_congr
          intro y _
          rw [Bool.and_comm]
        rw [h2, List.length_reverse]
      · omega
    | succ n ih =>
      intro x k hn h0 h1 he
      have hsn := seg_snoc (f := id) h0
      refine x_iload (pc := 23) hC dX12_ahead_23 rfl ?_
      refine x_aload_n (pc := 25) hC dX12_ahead_25 rfl ?_
      refine x_getI (pc := 26) hC gf_X12_129 dX12_ahead_26 M.1 ?_
      refine x_icmp_ge (pc := 29) hC 66 dX12_ahead_29 (by decide) (by omega) (by omega) (fun b29 => ?_) (fun b29 => ?_)
      · refine x_iload_n (pc := 66) hC dX12_ahead_66 rfl ?_
        refine x_iret (pc := 67) hC rfl dX12_ahead_67 ?_
        have hx : x = (I o 2) := by omega
        refine ⟨⟨?_, rfl⟩, rfl, rfl, rfl, rfl⟩
        unfold ahR
        rw [if_pos ⟨hc, hd⟩, he, hx]
        have hr := path_rev hp _ c (Nat.le_refl _) hc.1 hc.2 ((I o 2)) hc.2
        have h2 : (seg id 0 ((I o 2))).filter (fun y => decide (y ∈ path (I (o + 2)) c) && decide (y ∉ path (I (o + 2)) d)) = ((path (I (o + 2)) c).filter (fun x => decide (x ∉ path (I (o + 2)) d))).reverse := by
          rw [← List.filter_reverse, ← hr, List.filter_filter]
          apply List.filter_congr
          intro y _
          rw [Bool.and_comm]
        rw [h2, List.length_reverse]
      · refine x_iload_n (pc := 32) hC dX12_ahead_32 rfl ?_
        refine x_aload_n (pc := 33) hC dX12_ahead_33 rfl ?_
        refine x_iload (pc := 34) hC dX12_ahead_34 rfl ?_
        refine x_iload_n (pc := 36) hC dX12_ahead_36 rfl ?_
        refine x_mV (pc := 37) hC cv_X12_201 dX12_ahead_37 (m_isOn M hmm.2 hm.2.2.1 h0 (by omega) hc.1 hc.2) M.1 rfl (by decide) rfl rfl (Nat.le_of_ble_eq_true rfl) ?_
        refine x_ifB_eq (pc := 40) hC 57 dX12_ahead_40 (by decide) (fun b40 => ?_) (fun b40 => ?_)
        · refine x_iconst (pc := 57) hC dX12_ahead_57 ?_
          refine x_iadd (pc := 58) hC dX12_ahead_58 ?_
          refine x_istore_n (pc := 59) hC dX12_ahead_59 (Nat.le_of_ble_eq_true rfl) ?_
          dsimp only [List.set]
          refine x_iinc (pc := 60) hC dX12_ahead_60 rfl ?_
          dsimp only [List.set]
          refine x_goto (pc := 63) hC 23 dX12_ahead_63 (by decide) ?_
          refine ih (x + 1) _ (by omega) (by omega) (by omega) ?_
          rw [hsn, List.filter_append, List.length_append, he]
          first
          | (have : [id x].filter (fun y => decide (y ∈ path (I (o + 2)) c) && decide (y ∉ path (I (o + 2)) d)) = [x] := by simp [b40, b50]
             rw [this]; rfl)
          | (have : [id x].filter (fun y => decide (y ∈ path (I (o + 2)) c) && decide (y ∉ path (I (o + 2)) d)) = [] := by simp [b40, b50]
             rw [this]; rfl)
          | (have : [id x].filter (fun y => decide (y ∈ path (I (o + 2)) c) && decide (y ∉ path (I (o + 2)) d)) = [] := by simp [b40]
             rw [this]; rfl)
        · refine x_aload_n (pc := 43) hC dX12_ahead_43 rfl ?_
          refine x_iload (pc := 44) hC dX12_ahead_44 rfl ?_
          refine x_iload_n (pc := 46) hC dX12_ahead_46 rfl ?_
          refine x_mV (pc := 47) hC cv_X12_201 dX12_ahead_47 (m_isOn M hmm.2 hm.2.2.1 h0 (by omega) hd.1 hd.2) M.1 rfl (by decide) rfl rfl (Nat.le_of_ble_eq_true rfl) ?_
          refine x_ifB_ne (pc := 50) hC 57 dX12_ahead_50 (by decide) (fun b50 => ?_) (fun b50 => ?_)
          · refine x_iconst (pc := 57) hC dX12_ahead_57 ?_
            refine x_iadd (pc := 58) hC dX12_ahead_58 ?_
            refine x_istore_n (pc := 59) hC dX12_ahead_59 (Nat.le_of_ble_eq_true rfl) ?_
            dsimp only [List.set]
            refine x_iinc (pc := 60) hC dX12_ahead_60 rfl ?_
            dsimp only [List.set]
            refine x_goto (pc := 63) hC 23 dX12_ahead_63 (by decide) ?_
            refine ih (x + 1) _ (by omega) (by omega) (by omega) ?_
            rw [hsn, List.filter_append, List.length_append, he]
            first
            | (have : [id x].filter (fun y => decide (y ∈ path (I (o + 2)) c) && decide (y ∉ path (I (o + 2)) d)) = [x] := by simp [b40, b50]
               rw [this]; rfl)
            | (have : [id x].filter (fun y => decide (y ∈ path (I (o + 2)) c) && decide (y ∉ path (I (o + 2)) d)) = [] := by simp [b40, b50]
               rw [this]; rfl)
            | (have : [id x].filter (fun y => decide (y ∈ path (I (o + 2)) c) && decide (y ∉ path (I (o + 2)) d)) = [] := by simp [b40]
               rw [this]; rfl)
          · refine x_iconst (pc := 53) hC dX12_ahead_53 ?_
            refine x_goto (pc := 54) hC 58 dX12_ahead_54 (by decide) ?_
            refine x_iadd (pc := 58) hC dX12_ahead_58 ?_
            refine x_istore_n (pc := 59) hC dX12_ahead_59 (Nat.le_of_ble_eq_true rfl) ?_
            dsimp only [List.set]
            refine x_iinc (pc := 60) hC dX12_ahead_60 rfl ?_
            dsimp only [List.set]
            refine x_goto (pc := 63) hC 23 dX12_ahead_63 (by decide) ?_
            refine ih (x + 1) _ (by omega) (by omega) (by omega) ?_
            rw [hsn, List.filter_append, List.length_append, he]
            first
            | (have : [id x].filter (fun y => decide (y ∈ path (I (o + 2)) c) && decide (y ∉ path (I (o + 2)) d)) = [x] := by simp [b40, b50]
               rw [this]; rfl)
            | (have : [id x].filter (fun y => decide (y ∈ path (I (o + 2)) c) && decide (y ∉ path (I (o + 2)) d)) = [] := by simp [b40, b50]
               rw [this]; rfl)
            | (have : [id x].filter (fun y => decide (y ∈ path (I (o + 2)) c) && decide (y ∉ path (I (o + 2)) d)) = [] := by simp [b40]
               rw [this]; rfl)
  refine x_aload_n (pc := 0) hC dX12_ahead_0 rfl ?_
  refine x_iload_n (pc := 1) hC dX12_ahead_1 rfl ?_
  refine x_mV (pc := 2) hC cv_X12_171 dX12_ahead_2 (m_isCommit M hcr (by omega)) M.1 rfl (by decide) rfl rfl (Nat.le_of_ble_eq_true rfl) ?_
  refine x_ifB_eq (pc := 5) hC 16 dX12_ahead_5 (by decide) (fun b5 => ?_) (fun b5 => ?_)
  · refine x_iconst (pc := 16) hC dX12_ahead_16 ?_
    refine x_iret (pc := 17) hC rfl dX12_ahead_17 ?_
    exact ⟨⟨by unfold ahR; rw [if_neg (by omega)], rfl⟩, rfl, rfl, rfl, rfl⟩
  · refine x_aload_n (pc := 8) hC dX12_ahead_8 rfl ?_
    refine x_iload_n (pc := 9) hC dX12_ahead_9 rfl ?_
    refine x_mV (pc := 10) hC cv_X12_171 dX12_ahead_10 (m_isCommit M hdr (by omega)) M.1 rfl (by decide) rfl rfl (Nat.le_of_ble_eq_true rfl) ?_
    refine x_ifB_ne (pc := 13) hC 18 dX12_ahead_13 (by decide) (fun b13 => ?_) (fun b13 => ?_)
    · refine x_iconst (pc := 18) hC dX12_ahead_18 ?_
      refine x_istore_n (pc := 19) hC dX12_ahead_19 (Nat.le_of_ble_eq_true rfl) ?_
      dsimp only [List.set]
      refine x_iconst (pc := 20) hC dX12_ahead_20 ?_
      refine x_istore (pc := 21) hC dX12_ahead_21 (Nat.le_of_ble_eq_true rfl) ?_
      dsimp only [List.set]
      exact loop b5 b13 _ 0 0 (Nat.le_refl _) (by omega) (by omega) (by rw [seg_nil (Int.le_refl _)]; rfl)
    · refine x_iconst (pc := 16) hC dX12_ahead_16 ?_
      refine x_iret (pc := 17) hC rfl dX12_ahead_17 ?_
      exact ⟨⟨by unfold ahR; rw [if_neg (by omega)], rfl⟩, rfl, rfl, rfl, rfl⟩

def tpR (I : Nat → Int → Int) (o : Nat) (b : Int) : Int := if 0 ≤ b ∧ b < 4 then I (o + 7) b else -1
set_option maxHeartbeats 4000000 in
set_option maxRecDepth 100000 in
theorem m_tip {G : ax_G} {T : Nat → Nat} {N : Nat → Int} {I : Nat → Int → Int} {R : Nat → Int → Option Nat} {z o : Nat} (M : axMo T N R o) {b : Int} (hb : ax_r b) : axE G YX12_tip 2 [vR o, vI b] T N I R z (some (vI (tpR I o b))) I := by

  refine ax_enter (by decide) (Nat.le_of_ble_eq_true rfl) (ax_cat rfl) (fun f hC => ?_)
  show axX G f 0 0 _ 0 [vR o, vI b] [] T N I R z 0 0
  refine x_iload_n (pc := 0) hC dX12_tip_0 rfl ?_
  refine x_mS (pc := 1) hC cs_X12_183 dX12_tip_1 (m_isBranch hb) rfl (by decide) rfl rfl (Nat.le_of_ble_eq_true rfl) ?_
  refine x_ifB_eq (pc := 4) hC 16 dX12_tip_4 (by decide) (fun b4 => ?_) (fun b4 => ?_)
  · refine x_iconst (pc := 16) hC dX12_tip_16 ?_
    refine x_iret (pc := 17) hC rfl dX12_tip_17 ?_
    exact ⟨by unfold tpR; first | rw [if_pos b4] | rw [if_neg b4], rfl, rfl, rfl, rfl, rfl⟩
  · refine x_aload_n (pc := 7) hC dX12_tip_7 rfl ?_
    refine x_getO (pc := 8) hC gf_X12_28 dX12_tip_8 M.1 (mo_tips M).1 ?_
    refine x_iload_n (pc := 11) hC dX12_tip_11 rfl ?_
    refine x_iald (pc := 12) hC dX12_tip_12 (mo_tips M).2.1 (by omega) (by rw [(mo_tips M).2.2]; omega) ?_
    refine x_goto (pc := 13) hC 17 dX12_tip_13 (by decide) ?_
    refine x_iret (pc := 17) hC rfl dX12_tip_17 ?_
    exact ⟨by unfold tpR; first | rw [if_pos b4] | rw [if_neg b4], rfl, rfl, rfl, rfl, rfl⟩

def ptR (I : Nat → Int → Int) (o : Nat) (b c : Int) : Int := if (0 ≤ b ∧ b < 4) ∧ 0 ≤ c ∧ c < I o 2 then (if I o 40 = 0 then I (o + 7) b else -3) else -1
def ptI (I : Nat → Int → Int) (o : Nat) (b c : Int) : Nat → Int → Int := if ((0 ≤ b ∧ b < 4) ∧ 0 ≤ c ∧ c < I o 2) ∧ I o 40 = 0 then ax_u I (o + 7) b c else I
set_option maxHeartbeats 4000000 in
set_option maxRecDepth 100000 in
theorem m_point {G : ax_G} {T : Nat → Nat} {N : Nat → Int} {I : Nat → Int → Int} {R : Nat → Int → Option Nat} {z o : Nat} (M : axMo T N R o) {b c : Int} (hm : 0 ≤ (I o 2) ∧ (I o 2) ≤ 24) (hs : 0 ≤ (I o 40) ∧ (I o 40) ≤ 2) (hb : ax_r b) (hc : ax_r c) : axE G YX12_point 2 [vR o, vI b, vI c] T N I R z (some (vI (ptR I o b c))) (ptI I o b c) := by

  refine ax_enter (by decide) (Nat.le_of_ble_eq_true rfl) (ax_cat rfl) (fun f hC => ?_)
  show axX G f 0 0 _ 0 [vR o, vI b, vI c, vU] [] T N I R z 0 0
  refine x_iload_n (pc := 0) hC dX12_point_0 rfl ?_
  refine x_mS (pc := 1) hC cs_X12_183 dX12_point_1 (m_isBranch hb) rfl (by decide) rfl rfl (Nat.le_of_ble_eq_true rfl) ?_
  refine x_ifB_eq (pc := 4) hC 15 dX12_point_4 (by decide) (fun b4 => ?_) (fun b4 => ?_)
  · refine x_iconst (pc := 15) hC dX12_point_15 ?_
    refine x_iret (pc := 16) hC rfl dX12_point_16 ?_
    exact ⟨by unfold ptR; rw [if_neg (by omega)], rfl, rfl, by unfold ptI; rw [if_neg (by omega)], rfl, rfl⟩
  · refine x_aload_n (pc := 7) hC dX12_point_7 rfl ?_
    refine x_iload_n (pc := 8) hC dX12_point_8 rfl ?_
    refine x_mV (pc := 9) hC cv_X12_171 dX12_point_9 (m_isCommit M hc hm) M.1 rfl (by decide) rfl rfl (Nat.le_of_ble_eq_true rfl) ?_
    refine x_ifB_ne (pc := 12) hC 17 dX12_point_12 (by decide) (fun b12 => ?_) (fun b12 => ?_)
    · refine x_aload_n (pc := 17) hC dX12_point_17 rfl ?_
      refine x_getI (pc := 18) hC gf_X12_189 dX12_point_18 M.1 ?_
      refine x_if_eq (pc := 21) hC 27 dX12_point_21 (by decide) (by omega) (fun b21 => ?_) (fun b21 => ?_)
      · refine x_aload_n (pc := 27) hC dX12_point_27 rfl ?_
        refine x_getO (pc := 28) hC gf_X12_28 dX12_point_28 M.1 (mo_tips M).1 ?_
        refine x_iload_n (pc := 31) hC dX12_point_31 rfl ?_
        refine x_iald (pc := 32) hC dX12_point_32 (mo_tips M).2.1 (by omega) (by rw [(mo_tips M).2.2]; omega) ?_
        refine x_istore_n (pc := 33) hC dX12_point_33 (Nat.le_of_ble_eq_true rfl) ?_
        dsimp only [List.set]
        refine x_aload_n (pc := 34) hC dX12_point_34 rfl ?_
        refine x_getO (pc := 35) hC gf_X12_28 dX12_point_35 M.1 (mo_tips M).1 ?_
        refine x_iload_n (pc := 38) hC dX12_point_38 rfl ?_
        refine x_iload_n (pc := 39) hC dX12_point_39 rfl ?_
        refine x_iast (pc := 40) hC dX12_point_40 (mo_tips M).2.1 (by omega) (by rw [(mo_tips M).2.2]; omega) ?_
        refine x_iload_n (pc := 41) hC dX12_point_41 rfl ?_
        refine x_iret (pc := 42) hC rfl dX12_point_42 ?_
        exact ⟨by unfold ptR; rw [if_pos ⟨b4, b12⟩, if_pos b21], rfl, rfl, by unfold ptI; rw [if_pos ⟨⟨b4, b12⟩, b21⟩], rfl, rfl⟩
      · refine x_bipush (pc := 24) hC dX12_point_24 (by decide) ?_
        refine x_iret (pc := 26) hC rfl dX12_point_26 ?_
        exact ⟨by unfold ptR; rw [if_pos ⟨b4, b12⟩, if_neg b21], rfl, rfl, by unfold ptI; rw [if_neg (fun h => b21 h.2)], rfl, rfl⟩
    · refine x_iconst (pc := 15) hC dX12_point_15 ?_
      refine x_iret (pc := 16) hC rfl dX12_point_16 ?_
      exact ⟨by unfold ptR; rw [if_neg (by omega)], rfl, rfl, by unfold ptI; rw [if_neg (by omega)], rfl, rfl⟩

