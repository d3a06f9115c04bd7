/-! THE REFERENCE: status, conflict -/
def stR (I : Nat → Int → Int) (o : Nat) (w : Int) : Int := if 0 ≤ w ∧ w ≤ 8 then (if 2 ≤ w ∧ w ≤ 5 then I (o + 29) (w - 2) else if I o 40 = 0 then (if w = 0 ∨ w = 6 ∨ w = 7 then 0 else -9) else if w = 0 then I o 40 else if w = 1 then goX I o else if w = 6 then I o 46 - I o 47 - 1 else if w = 7 then ((goM I o).2.2.length : Int) else I o 43) else -2
abbrev opP (I : Nat → Int → Int) (o : Nat) (k : Int) : Prop := I o 40 ≠ 0 ∧ 0 ≤ k ∧ k < (goM I o).2.2.length
/-- the gap of an open conflict and its three parts -/
def cgG (I : Nat → Int → Int) (o : Nat) (k : Int) : Gp := (goM I o).2.2.getD k.toNat (0, 0, 0, 0, 0, 0)
def cgB (I : Nat → Int → Int) (o : Nat) (k : Int) : List Int := seg (rwI I o (I (o + 2) (goX I o))) (cgG I o k).1 (cgG I o k).2.1
def cgO (I : Nat → Int → Int) (o : Nat) (k : Int) : List Int := seg (rwI I o (I o 43)) (cgG I o k).2.2.1 (cgG I o k).2.2.2.1
def cgT (I : Nat → Int → Int) (o : Nat) (k : Int) : List Int := seg (rwI I o (goX I o)) (cgG I o k).2.2.2.2.1 (cgG I o k).2.2.2.2.2
def cfV (B O Th : List Int) (w : Int) : Int := if 0 ≤ w ∧ w ≤ 2 then (if w = 0 then (B.length : Int) else if w = 1 then (O.length : Int) else (Th.length : Int)) else if 10 ≤ w ∧ w ≤ 25 then atO B (w - 10) else if 30 ≤ w ∧ w ≤ 45 then atO O (w - 30) else if 50 ≤ w ∧ w ≤ 65 then atO Th (w - 50) else if 70 ≤ w ∧ w ≤ 120 then atO (cShape B O Th).1 (w - 70) else if w = 3 then ((cShape B O Th).1.length : Int) else if w = 4 then lxF (shpSeq B O Th).1 (shpSeq B Th O).1 else -2
def cfR (I : Nat → Int → Int) (o : Nat) (k w : Int) : Int := if opP I o k then cfV (cgB I o k) (cgO I o k) (cgT I o k) w else -1
theorem sh_pick {J : Nat → Int → Int} {o : Nat} {B O Th : List Int} (h0 : shM J o 0 (shpSeq B O Th)) (h1 : shM J o 1 (shpSeq B Th O)) (h29 : J o 29 = lxF (shpSeq B O Th).1 (shpSeq B Th O).1) (h28 : J o 28 = (shpSeq B O Th).1.length) : (J o 29 = 0 ∨ J o 29 = 1) ∧ shM J o (J o 29) (cShape B O Th) ∧ J o 28 = (cShape B O Th).1.length := by
  have h := lxF_01 (shpSeq B O Th).1 (shpSeq B Th O).1
  rw [h29]
  refine ⟨h, ?_⟩
  unfold cShape
  rcases h with h | h
  · rw [if_pos h, h]; exact ⟨h0, h28⟩
  · rw [if_neg (by omega), h]
    refine ⟨h1, ?_⟩
    rw [h28, (shpSeq_l B O Th).1, (shpSeq_l B Th O).1]
    omega
theorem agF.scre {B J : Nat → Int → Int} {o : Nat} (h : agF B J o) : scr B J o := ⟨fun q a b => h.1 q a (by omega) (by omega) (by omega), fun k a => h.2 k (fun e => a (by unfold sfd; omega)) (fun e => a (by unfold sfd; omega))⟩

set_option maxHeartbeats 4000000 in
set_option maxRecDepth 100000 in
theorem m_status {G : ax_G} {T : Nat → Nat} {N : Nat → Int} {I : Nat → Int → Int} {R : Nat → Int → Option Nat} {z o : Nat} (M : axMo T N R o) {w : Int} (hm : miC I o) (hR : miR I o) (hs : rpS I o) (hw : ax_r w) : axEx G YX12_status 7 [vR o, vI w] T N I R z (fun r1 I1 => r1 = some (vI (stR I o w)) ∧ scr I I1 o) := by

  refine ax_enter (by decide) (Nat.le_of_ble_eq_true rfl) (ax_cat rfl) (fun f hC => ?_)
  show axX G f 0 0 _ 0 [vR o, vI w] [] T N I R z 0 0
  have hs0 := hs.1
  have fx : (I o 40) ≠ 0 → (0 < goX I o ∧ goX I o < 24) ∧ (0 ≤ I (o + 2) (goX I o) ∧ I (o + 2) (goX I o) < 24) ∧ (0 ≤ (I o 43) ∧ (I o 43) < 24) ∧ (0 ≤ (I o 47) ∧ (I o 47) < 24 ∧ (I o 47) < (I o 46) ∧ (I o 46) ≤ 24) := fun h => by
    obtain ⟨⟨r1, r2, r3, r4⟩, r5, -⟩ := hs.2 h
    have hx : 0 < goX I o ∧ goX I o < I o 2 := r2 (I o 47) r1.1 r5
    have hp := hm.2.2.1.2 (goX I o) hx.1 hx.2
    have := hm.1
    omega
  refine x_iload_n (pc := 0) hC dX12_status_0 rfl ?_
  refine x_iconst (pc := 1) hC dX12_status_1 ?_
  refine x_bipush (pc := 2) hC dX12_status_2 (by decide) ?_
  refine x_mS (pc := 4) hC cs_X12_139 dX12_status_4 (m_within hw (by decide) (by decide)) rfl (by decide) rfl rfl (Nat.le_of_ble_eq_true rfl) ?_
  refine x_ifB_ne (pc := 7) hC 13 dX12_status_7 (by decide) (fun b7 => ?_) (fun b7 => ?_)
  · refine x_iload_n (pc := 13) hC dX12_status_13 rfl ?_
    refine x_iconst (pc := 14) hC dX12_status_14 ?_
    refine x_iconst (pc := 15) hC dX12_status_15 ?_
    refine x_mS (pc := 16) hC cs_X12_139 dX12_status_16 (m_within hw (by decide) (by decide)) rfl (by decide) rfl rfl (Nat.le_of_ble_eq_true rfl) ?_
    refine x_ifB_eq (pc := 19) hC 31 dX12_status_19 (by decide) (fun b19 => ?_) (fun b19 => ?_)
    · refine x_aload_n (pc := 31) hC dX12_status_31 rfl ?_
      refine x_getI (pc := 32) hC gf_X12_189 dX12_status_32 M.1 ?_
      refine x_if_ne (pc := 35) hC 61 dX12_status_35 (by decide) (by omega) (fun b35 => ?_) (fun b35 => ?_)
      · have hfx := fx b35
        refine x_iload_n (pc := 61) hC dX12_status_61 rfl ?_
        by_cases t62_0 : w = 0
        · refine x_tswIn (pc := 62) hC 108 dX12_status_62 hw (by omega) (by omega) (by rw [t62_0]; rfl) (by decide) ?_
          refine x_aload_n (pc := 108) hC dX12_status_108 rfl ?_
          refine x_getI (pc := 109) hC gf_X12_189 dX12_status_109 M.1 ?_
          refine x_iret (pc := 112) hC rfl dX12_status_112 ?_
          first
          | (exfalso; omega)
          | (refine ⟨⟨?_, scr.rf⟩, rfl, rfl, rfl, rfl⟩
             unfold stR
             rw [if_pos (by omega), if_neg (by omega), if_neg b35]
             first
             | (rw [if_pos (by omega)]; done)
             | (rw [if_neg (by omega), if_pos (by omega)]; done)
             | (rw [if_neg (by omega), if_neg (by omega), if_pos (by omega)]; done)
             | (rw [if_neg (by omega), if_neg (by omega), if_neg (by omega), if_neg (by omega)]; done))
        · skip
          by_cases t62_1 : w = 1
          · refine x_tswIn (pc := 62) hC 113 dX12_status_62 hw (by omega) (by omega) (by rw [t62_1]; rfl) (by decide) ?_
            refine x_aload_n (pc := 113) hC dX12_status_113 rfl ?_
            refine x_getO (pc := 114) hC gf_X12_91 dX12_status_114 M.1 (mo_todo M).1 ?_
            refine x_aload_n (pc := 117) hC dX12_status_117 rfl ?_
            refine x_getI (pc := 118) hC gf_X12_271 dX12_status_118 M.1 ?_
            refine x_iald (pc := 121) hC dX12_status_121 (mo_todo M).2.1 (by omega) (by rw [(mo_todo M).2.2]; omega) ?_
            refine x_iret (pc := 122) hC rfl dX12_status_122 ?_
            first
            | (exfalso; omega)
            | (refine ⟨⟨?_, scr.rf⟩, rfl, rfl, rfl, rfl⟩
               unfold stR
               rw [if_pos (by omega), if_neg (by omega), if_neg b35]
               first
               | (rw [if_pos (by omega)]; done)
               | (rw [if_neg (by omega), if_pos (by omega)]; done)
               | (rw [if_neg (by omega), if_neg (by omega), if_pos (by omega)]; done)
               | (rw [if_neg (by omega), if_neg (by omega), if_neg (by omega), if_neg (by omega)]; done))
          · skip
            by_cases t62_2 : w = 2
            · refine x_tswIn (pc := 62) hC 158 dX12_status_62 hw (by omega) (by omega) (by rw [t62_2]; rfl) (by decide) ?_
              refine x_aload_n (pc := 158) hC dX12_status_158 rfl ?_
              refine x_getI (pc := 159) hC gf_X12_265 dX12_status_159 M.1 ?_
              refine x_iret (pc := 162) hC rfl dX12_status_162 ?_
              first
              | (exfalso; omega)
              | (refine ⟨⟨?_, scr.rf⟩, rfl, rfl, rfl, rfl⟩
                 unfold stR
                 rw [if_pos (by omega), if_neg (by omega), if_neg b35]
                 first
                 | (rw [if_pos (by omega)]; done)
                 | (rw [if_neg (by omega), if_pos (by omega)]; done)
                 | (rw [if_neg (by omega), if_neg (by omega), if_pos (by omega)]; done)
                 | (rw [if_neg (by omega), if_neg (by omega), if_neg (by omega), if_neg (by omega)]; done))
            · skip
              by_cases t62_3 : w = 3
              · refine x_tswIn (pc := 62) hC 158 dX12_status_62 hw (by omega) (by omega) (by rw [t62_3]; rfl) (by decide) ?_
                refine x_aload_n (pc := 158) hC dX12_status_158 rfl ?_
                refine x_getI (pc := 159) hC gf_X12_265 dX12_status_159 M.1 ?_
                refine x_iret (pc := 162) hC rfl dX12_status_162 ?_
                first
                | (exfalso; omega)
                | (refine ⟨⟨?_, scr.rf⟩, rfl, rfl, rfl, rfl⟩
                   unfold stR
                   rw [if_pos (by omega), if_neg (by omega), if_neg b35]
                   first
                   | (rw [if_pos (by omega)]; done)
                   | (rw [if_neg (by omega), if_pos (by omega)]; done)
                   | (rw [if_neg (by omega), if_neg (by omega), if_pos (by omega)]; done)
                   | (rw [if_neg (by omega), if_neg (by omega), if_neg (by omega), if_neg (by omega)]; done))
              · skip
                by_cases t62_4 : w = 4
                · refine x_tswIn (pc := 62) hC 158 dX12_status_62 hw (by omega) (by omega) (by rw [t62_4]; rfl) (by decide) ?_
                  refine x_aload_n (pc := 158) hC dX12_status_158 rfl ?_
                  refine x_getI (pc := 159) hC gf_X12_265 dX12_status_159 M.1 ?_
                  refine x_iret (pc := 162) hC rfl dX12_status_162 ?_
                  first
                  | (exfalso; omega)
                  | (refine ⟨⟨?_, scr.rf⟩, rfl, rfl, rfl, rfl⟩
                     unfold stR
                     rw [if_pos (by omega), if_neg (by omega), if_neg b35]
                     first
                     | (rw [if_pos (by omega)]; done)
                     | (rw [if_neg (by omega), if_pos (by omega)]; done)
                     | (rw [if_neg (by omega), if_neg (by omega), if_pos (by omega)]; done)
                     | (rw [if_neg (by omega), if_neg (by omega), if_neg (by omega), if_neg (by omega)]; done))
                · skip
                  by_cases t62_5 : w = 5
                  · refine x_tswIn (pc := 62) hC 158 dX12_status_62 hw (by omega) (by omega) (by rw [t62_5]; rfl) (by decide) ?_
                    refine x_aload_n (pc := 158) hC dX12_status_158 rfl ?_
                    refine x_getI (pc := 159) hC gf_X12_265 dX12_status_159 M.1 ?_
                    refine x_iret (pc := 162) hC rfl dX12_status_162 ?_
                    first
                    | (exfalso; omega)
                    | (refine ⟨⟨?_, scr.rf⟩, rfl, rfl, rfl, rfl⟩
                       unfold stR
                       rw [if_pos (by omega), if_neg (by omega), if_neg b35]
                       first
                       | (rw [if_pos (by omega)]; done)
                       | (rw [if_neg (by omega), if_pos (by omega)]; done)
                       | (rw [if_neg (by omega), if_neg (by omega), if_pos (by omega)]; done)
                       | (rw [if_neg (by omega), if_neg (by omega), if_neg (by omega), if_neg (by omega)]; done))
                  · skip
                    by_cases t62_6 : w = 6
                    · refine x_tswIn (pc := 62) hC 123 dX12_status_62 hw (by omega) (by omega) (by rw [t62_6]; rfl) (by decide) ?_
                      refine x_aload_n (pc := 123) hC dX12_status_123 rfl ?_
                      refine x_getI (pc := 124) hC gf_X12_262 dX12_status_124 M.1 ?_
                      refine x_aload_n (pc := 127) hC dX12_status_127 rfl ?_
                      refine x_getI (pc := 128) hC gf_X12_271 dX12_status_128 M.1 ?_
                      refine x_isub (pc := 131) hC dX12_status_131 ?_
                      refine x_iconst (pc := 132) hC dX12_status_132 ?_
                      refine x_isub (pc := 133) hC dX12_status_133 ?_
                      refine x_iret (pc := 134) hC rfl dX12_status_134 ?_
                      first
                      | (exfalso; omega)
                      | (refine ⟨⟨?_, scr.rf⟩, rfl, rfl, rfl, rfl⟩
                         unfold stR
                         rw [if_pos (by omega), if_neg (by omega), if_neg b35]
                         first
                         | (rw [if_pos (by omega)]; done)
                         | (rw [if_neg (by omega), if_pos (by omega)]; done)
                         | (rw [if_neg (by omega), if_neg (by omega), if_pos (by omega)]; done)
                         | (rw [if_neg (by omega), if_neg (by omega), if_neg (by omega), if_neg (by omega)]; done))
                    · skip
                      by_cases t62_7 : w = 7
                      · refine x_tswIn (pc := 62) hC 135 dX12_status_62 hw (by omega) (by omega) (by rw [t62_7]; rfl) (by decide) ?_
                        refine x_aload_n (pc := 135) hC dX12_status_135 rfl ?_
                        refine x_aload_n (pc := 136) hC dX12_status_136 rfl ?_
                        refine x_getO (pc := 137) hC gf_X12_91 dX12_status_137 M.1 (mo_todo M).1 ?_
                        refine x_aload_n (pc := 140) hC dX12_status_140 rfl ?_
                        refine x_getI (pc := 141) hC gf_X12_271 dX12_status_141 M.1 ?_
                        refine x_iald (pc := 144) hC dX12_status_144 (mo_todo M).2.1 (by omega) (by rw [(mo_todo M).2.2]; omega) ?_
                        refine x_aload_n (pc := 145) hC dX12_status_145 rfl ?_
                        refine x_getI (pc := 146) hC gf_X12_265 dX12_status_146 M.1 ?_
                        refine x_mVx (pc := 149) hC cv_X12_283 dX12_status_149 (m_against M hm.2.1 hR ⟨Int.le_of_lt hfx.1.1, hfx.1.2⟩ (by omega) hfx.2.1) M.1 rfl (by decide) rfl rfl (Nat.le_of_ble_eq_true rfl) ?_
                        rintro v J3 ⟨rfl, hJ3, hM, hM5, hM6, hM7, hM8⟩
                        dsimp only [Option.toList]
                        rw [mrg_list _ _ _ _ (hm.2.1.2 _).1 (hm.2.1.2 _).1 (hm.2.1.2 _).1] at hM hM5 hM6 hM7 hM8
                        change mgM J3 o (goM I o) at hM
                        change (goM I o).2.2.length ≤ 17 at hM7
                        change ∀ g ∈ (goM I o).2.2, gOk g at hM8
                        have hop := hM.2.2.1
                        refine x_pop (pc := 152) hC dX12_status_152 rfl ?_
                        refine x_aload_n (pc := 153) hC dX12_status_153 rfl ?_
                        refine x_getI (pc := 154) hC gf_X12_236 dX12_status_154 M.1 ?_
                        refine x_iret (pc := 157) hC rfl dX12_status_157 ?_
                        refine ⟨⟨?_, hJ3⟩, rfl, rfl, rfl, rfl⟩
                        unfold stR
                        rw [if_pos (by omega), if_neg (by omega), if_neg b35, if_neg (by omega), if_neg (by omega), if_neg (by omega), if_pos (by omega), hop]
                      · skip
                        refine x_tswOut (pc := 62) hC 158 dX12_status_62 (by decide) hw (by omega) ?_
                        refine x_aload_n (pc := 158) hC dX12_status_158 rfl ?_
                        refine x_getI (pc := 159) hC gf_X12_265 dX12_status_159 M.1 ?_
                        refine x_iret (pc := 162) hC rfl dX12_status_162 ?_
                        first
                        | (exfalso; omega)
                        | (refine ⟨⟨?_, scr.rf⟩, rfl, rfl, rfl, rfl⟩
                           unfold stR
                           rw [if_pos (by omega), if_neg (by omega), if_neg b35]
                           first
                           | (rw [if_pos (by omega)]; done)
                           | (rw [if_neg (by omega), if_pos (by omega)]; done)
                           | (rw [if_neg (by omega), if_neg (by omega), if_pos (by omega)]; done)
                           | (rw [if_neg (by omega), if_neg (by omega), if_neg (by omega), if_neg (by omega)]; done))
      · refine x_iload_n (pc := 38) hC dX12_status_38 rfl ?_
        refine x_if_eq (pc := 39) hC 54 dX12_status_39 (by decide) (by omega) (fun b39 => ?_) (fun b39 => ?_)
        · refine x_iconst (pc := 54) hC dX12_status_54 ?_
          refine x_goto (pc := 55) hC 60 dX12_status_55 (by decide) ?_
          refine x_iret (pc := 60) hC rfl dX12_status_60 ?_
          refine ⟨⟨?_, scr.rf⟩, rfl, rfl, rfl, rfl⟩
          unfold stR
          rw [if_pos (by omega), if_neg (by omega), if_pos (by assumption)]
          first
          | (rw [if_pos (by omega)]; done)
          | (rw [if_neg (by omega)]; done)
        · refine x_iload_n (pc := 42) hC dX12_status_42 rfl ?_
          refine x_bipush (pc := 43) hC dX12_status_43 (by decide) ?_
          refine x_icmp_eq (pc := 45) hC 54 dX12_status_45 (by decide) (by omega) (by omega) (fun b45 => ?_) (fun b45 => ?_)
          · refine x_iconst (pc := 54) hC dX12_status_54 ?_
            refine x_goto (pc := 55) hC 60 dX12_status_55 (by decide) ?_
            refine x_iret (pc := 60) hC rfl dX12_status_60 ?_
            refine ⟨⟨?_, scr.rf⟩, rfl, rfl, rfl, rfl⟩
            unfold stR
            rw [if_pos (by omega), if_neg (by omega), if_pos (by assumption)]
            first
            | (rw [if_pos (by omega)]; done)
            | (rw [if_neg (by omega)]; done)
          · refine x_iload_n (pc := 48) hC dX12_status_48 rfl ?_
            refine x_bipush (pc := 49) hC dX12_status_49 (by decide) ?_
            refine x_icmp_ne (pc := 51) hC 58 dX12_status_51 (by decide) (by omega) (by omega) (fun b51 => ?_) (fun b51 => ?_)
            · refine x_bipush (pc := 58) hC dX12_status_58 (by decide) ?_
              refine x_iret (pc := 60) hC rfl dX12_status_60 ?_
              refine ⟨⟨?_, scr.rf⟩, rfl, rfl, rfl, rfl⟩
              unfold stR
              rw [if_pos (by omega), if_neg (by omega), if_pos (by assumption)]
              first
              | (rw [if_pos (by omega)]; done)
              | (rw [if_neg (by omega)]; done)
            · refine x_iconst (pc := 54) hC dX12_status_54 ?_
              refine x_goto (pc := 55) hC 60 dX12_status_55 (by decide) ?_
              refine x_iret (pc := 60) hC rfl dX12_status_60 ?_
              refine ⟨⟨?_, scr.rf⟩, rfl, rfl, rfl, rfl⟩
              unfold stR
              rw [if_pos (by omega), if_neg (by omega), if_pos (by assumption)]
              first
              | (rw [if_pos (by omega)]; done)
              | (rw [if_neg (by omega)]; done)
    · refine x_aload_n (pc := 22) hC dX12_status_22 rfl ?_
      refine x_getO (pc := 23) hC gf_X12_94 dX12_status_23 M.1 (mo_done M).1 ?_
      refine x_iload_n (pc := 26) hC dX12_status_26 rfl ?_
      refine x_iconst (pc := 27) hC dX12_status_27 ?_
      refine x_isub (pc := 28) hC dX12_status_28 ?_
      refine x_iald (pc := 29) hC dX12_status_29 (mo_done M).2.1 (by omega) (by rw [(mo_done M).2.2]; omega) ?_
      refine x_iret (pc := 30) hC rfl dX12_status_30 ?_
      exact ⟨⟨by unfold stR; rw [if_pos (by omega), if_pos (by omega)], scr.rf⟩, rfl, rfl, rfl, rfl⟩
  · refine x_bipush (pc := 10) hC dX12_status_10 (by decide) ?_
    refine x_iret (pc := 12) hC rfl dX12_status_12 ?_
    exact ⟨⟨by unfold stR; rw [if_neg (by omega)], scr.rf⟩, rfl, rfl, rfl, rfl⟩

set_option maxHeartbeats 4000000 in
set_option maxRecDepth 100000 in
theorem m_isOpen {G : ax_G} {T : Nat → Nat} {N : Nat → Int} {I : Nat → Int → Int} {R : Nat → Int → Option Nat} {z o : Nat} (M : axMo T N R o) {k : Int} (hm : miC I o) (hR : miR I o) (hs : rpS I o) (hk : ax_r k) : axEx G YX12_isOpen 7 [vR o, vI k] T N I R z (fun r1 I1 => r1 = some (vI (bI (opP I o k))) ∧ scr I I1 o ∧ (I o 40 ≠ 0 → mgM I1 o (goM I o) ∧ (goM I o).2.2.length ≤ 17 ∧ ∀ g ∈ (goM I o).2.2, gOk g)) := by

  refine ax_enter (by decide) (Nat.le_of_ble_eq_true rfl) (ax_cat rfl) (fun f hC => ?_)
  show axX G f 0 0 _ 0 [vR o, vI k] [] T N I R z 0 0
  have hs0 := hs.1
  have fx : (I o 40) ≠ 0 → (0 < goX I o ∧ goX I o < 24) ∧ (0 ≤ I (o + 2) (goX I o) ∧ I (o + 2) (goX I o) < 24) ∧ (0 ≤ (I o 43) ∧ (I o 43) < 24) ∧ (0 ≤ (I o 47) ∧ (I o 47) < 24 ∧ (I o 47) < (I o 46) ∧ (I o 46) ≤ 24) := fun h => by
    obtain ⟨⟨r1, r2, r3, r4⟩, r5, -⟩ := hs.2 h
    have hx : 0 < goX I o ∧ goX I o < I o 2 := r2 (I o 47) r1.1 r5
    have hp := hm.2.2.1.2 (goX I o) hx.1 hx.2
    have := hm.1
    omega
  refine x_aload_n (pc := 0) hC dX12_isOpen_0 rfl ?_
  refine x_getI (pc := 1) hC gf_X12_189 dX12_isOpen_1 M.1 ?_
  refine x_if_ne (pc := 4) hC 9 dX12_isOpen_4 (by decide) (by omega) (fun b4 => ?_) (fun b4 => ?_)
  · have hfx := fx b4
    refine x_aload_n (pc := 9) hC dX12_isOpen_9 rfl ?_
    refine x_aload_n (pc := 10) hC dX12_isOpen_10 rfl ?_
    refine x_getO (pc := 11) hC gf_X12_91 dX12_isOpen_11 M.1 (mo_todo M).1 ?_
    refine x_aload_n (pc := 14) hC dX12_isOpen_14 rfl ?_
    refine x_getI (pc := 15) hC gf_X12_271 dX12_isOpen_15 M.1 ?_
    refine x_iald (pc := 18) hC dX12_isOpen_18 (mo_todo M).2.1 (by omega) (by rw [(mo_todo M).2.2]; omega) ?_
    refine x_aload_n (pc := 19) hC dX12_isOpen_19 rfl ?_
    refine x_getI (pc := 20) hC gf_X12_265 dX12_isOpen_20 M.1 ?_
    refine x_mVx (pc := 23) hC cv_X12_283 dX12_isOpen_23 (m_against M hm.2.1 hR ⟨Int.le_of_lt hfx.1.1, hfx.1.2⟩ (by omega) hfx.2.1) M.1 rfl (by decide) rfl rfl (Nat.le_of_ble_eq_true rfl) ?_
    rintro v J3 ⟨rfl, hJ3, hM, hM5, hM6, hM7, hM8⟩
    dsimp only [Option.toList]
    rw [mrg_list _ _ _ _ (hm.2.1.2 _).1 (hm.2.1.2 _).1 (hm.2.1.2 _).1] at hM hM5 hM6 hM7 hM8
    change mgM J3 o (goM I o) at hM
    change (goM I o).2.2.length ≤ 17 at hM7
    change ∀ g ∈ (goM I o).2.2, gOk g at hM8
    have hop := hM.2.2.1
    refine x_pop (pc := 26) hC dX12_isOpen_26 rfl ?_
    refine x_iload_n (pc := 27) hC dX12_isOpen_27 rfl ?_
    refine x_iconst (pc := 28) hC dX12_isOpen_28 ?_
    refine x_aload_n (pc := 29) hC dX12_isOpen_29 rfl ?_
    refine x_getI (pc := 30) hC gf_X12_236 dX12_isOpen_30 M.1 ?_
    refine x_iconst (pc := 33) hC dX12_isOpen_33 ?_
    refine x_isub (pc := 34) hC dX12_isOpen_34 ?_
    refine x_mS (pc := 35) hC cs_X12_139 dX12_isOpen_35 (m_within hk (by decide) (by omega)) rfl (by decide) rfl rfl (Nat.le_of_ble_eq_true rfl) ?_
    refine x_zretB (pc := 38) hC rfl dX12_isOpen_38 ?_
    refine ⟨⟨?_, hJ3, fun _ => ⟨hM, hM7, hM8⟩⟩, rfl, rfl, rfl, rfl⟩
    rw [hop, bI_c (show (0 ≤ k ∧ k ≤ ((goM I o).2.2.length : Int) - 1) ↔ opP I o k from ⟨fun h => ⟨b4, h.1, by omega⟩, fun h => ⟨h.2.1, by have := h.2.2; omega⟩⟩)]
  · refine x_iconst (pc := 7) hC dX12_isOpen_7 ?_
    refine x_zret (pc := 8) hC rfl dX12_isOpen_8 (Or.inl rfl) ?_
    exact ⟨⟨by rw [bI_f (fun h => h.1 b4)], scr.rf, fun h => absurd b4 h⟩, rfl, rfl, rfl, rfl⟩

set_option maxHeartbeats 4000000 in
set_option maxRecDepth 100000 in
theorem m_partOf {G : ax_G} {T : Nat → Nat} {N : Nat → Int} {I : Nat → Int → Int} {R : Nat → Int → Option Nat} {z o : Nat} (M : axMo T N R o) {c i e k : Int} (hc : 0 ≤ c ∧ c < 26) (hi : 0 ≤ i ∧ i ≤ e ∧ e ≤ 16) (hk : 0 ≤ k ∧ k ≤ 16) : axE G YX12_partOf 0 [vR o, vI c, vI i, vI e, vI k] T N I R z (some (vI (atO (seg (rwI I o c) i e) k))) I := by

  refine ax_enter (by decide) (Nat.le_of_ble_eq_true rfl) (ax_cat rfl) (fun f hC => ?_)
  show axX G f 0 0 _ 0 [vR o, vI c, vI i, vI e, vI k] [] T N I R z 0 0
  have ha := atO_seg (f := rwI I o c) (i := i) (j := e) (k := k) hi.2.1 hk.1
  refine x_iload_n (pc := 0) hC dX12_partOf_0 rfl ?_
  refine x_iload (pc := 1) hC dX12_partOf_1 rfl ?_
  refine x_iadd (pc := 3) hC dX12_partOf_3 ?_
  refine x_iload_n (pc := 4) hC dX12_partOf_4 rfl ?_
  refine x_icmp_ge (pc := 5) hC 25 dX12_partOf_5 (by decide) (by omega) (by omega) (fun b5 => ?_) (fun b5 => ?_)
  · refine x_bipush (pc := 25) hC dX12_partOf_25 (by decide) ?_
    refine x_iret (pc := 27) hC rfl dX12_partOf_27 ?_
    refine ⟨?_, rfl, rfl, rfl, rfl, rfl⟩
    rw [ha]
    first
    | (rw [if_pos (by omega)]; simp only [rwI]; rw [Int.add_assoc]; done)
    | (rw [if_neg (by omega)]; done)
  · refine x_aload_n (pc := 8) hC dX12_partOf_8 rfl ?_
    refine x_getO (pc := 9) hC gf_X12_22 dX12_partOf_9 M.1 (mo_line M).1 ?_
    refine x_bipush (pc := 12) hC dX12_partOf_12 (by decide) ?_
    refine x_iload_n (pc := 14) hC dX12_partOf_14 rfl ?_
    refine x_imul (pc := 15) hC dX12_partOf_15 ?_
    refine x_iload_n (pc := 16) hC dX12_partOf_16 rfl ?_
    refine x_iadd (pc := 17) hC dX12_partOf_17 ?_
    refine x_iload (pc := 18) hC dX12_partOf_18 rfl ?_
    refine x_iadd (pc := 20) hC dX12_partOf_20 ?_
    refine x_iald (pc := 21) hC dX12_partOf_21 (mo_line M).2.1 (by omega) (by rw [(mo_line M).2.2]; omega) ?_
    refine x_goto (pc := 22) hC 27 dX12_partOf_22 (by decide) ?_
    refine x_iret (pc := 27) hC rfl dX12_partOf_27 ?_
    refine ⟨?_, rfl, rfl, rfl, rfl, rfl⟩
    rw [ha]
    first
    | (rw [if_pos (by omega)]; simp only [rwI]; rw [Int.add_assoc]; done)
    | (rw [if_neg (by omega)]; done)

set_option maxHeartbeats 4000000 in
set_option maxRecDepth 100000 in
theorem m_conflict {G : ax_G} {T : Nat → Nat} {N : Nat → Int} {I : Nat → Int → Int} {R : Nat → Int → Option Nat} {z o : Nat} (M : axMo T N R o) {k w : Int} (hm : miC I o) (hR : miR I o) (hs : rpS I o) (hk : ax_r k) (hw : ax_r w) : axEx G YX12_conflict 8 [vR o, vI k, vI w] T N I R z (fun r1 I1 => r1 = some (vI (cfR I o k w)) ∧ scr I I1 o) := by

  refine ax_enter (by decide) (Nat.le_of_ble_eq_true rfl) (ax_cat rfl) (fun f hC => ?_)
  show axX G f 0 0 _ 0 [vR o, vI k, vI w, vU, vU] [] T N I R z 0 0
  have hs0 := hs.1
  have fx : (I o 40) ≠ 0 → (0 < goX I o ∧ goX I o < 24) ∧ (0 ≤ I (o + 2) (goX I o) ∧ I (o + 2) (goX I o) < 24) ∧ (0 ≤ (I o 43) ∧ (I o 43) < 24) ∧ (0 ≤ (I o 47) ∧ (I o 47) < 24 ∧ (I o 47) < (I o 46) ∧ (I o 46) ≤ 24) := fun h => by
    obtain ⟨⟨r1, r2, r3, r4⟩, r5, -⟩ := hs.2 h
    have hx : 0 < goX I o ∧ goX I o < I o 2 := r2 (I o 47) r1.1 r5
    have hp := hm.2.2.1.2 (goX I o) hx.1 hx.2
    have := hm.1
    omega
  refine x_aload_n (pc := 0) hC dX12_conflict_0 rfl ?_
  refine x_iload_n (pc := 1) hC dX12_conflict_1 rfl ?_
  refine x_mVx (pc := 2) hC cv_X12_300 dX12_conflict_2 (m_isOpen M hm hR hs hk) M.1 rfl (by decide) rfl rfl (Nat.le_of_ble_eq_true rfl) ?_
  rintro v J ⟨rfl, hJ, hMM⟩
  dsimp only [Option.toList]
  show axX _ _ _ _ _ _ _ (vI _ :: []) _ _ _ _ _ _ _
  refine x_ifB_ne (pc := 5) hC 10 dX12_conflict_5 (by decide) (fun b5 => ?_) (fun b5 => ?_)
  · have hfx := fx b5.1
    obtain ⟨hM, hM7, hM8⟩ := hMM b5.1
    have j28 : J (o + 28) = I (o + 28) := hJ.1 _ (by omega) (by omega)
    have j47 : J o 47 = I o 47 := hJ.2 47 (by unfold sfd; omega)
    have j43 : J o 43 = I o 43 := hJ.2 43 (by unfold sfd; omega)
    have jp : J (o + 2) = I (o + 2) := hJ.1 _ (by omega) (by omega)
    have hlJ := (hJ.miCe hm).2.1
    have hkl := b5.2
    have hgk : (goM I o).2.2[k.toNat]? = some (cgG I o k) := by
      unfold cgG
      rw [List.getD_eq_getElem?_getD, List.getElem?_eq_getElem (by omega)]
      rfl
    have hgo := hM8 _ (List.mem_of_getElem? hgk)
    obtain ⟨⟨o0, o1, o2⟩, ⟨o3, o4, o5⟩, o6, o7, o8⟩ := hgo
    have hgp := hM.2.2.2 _ _ hgk
    rw [show ((k.toNat : Nat) : Int) = k by omega] at hgp
    obtain ⟨e0, e1, e2, e3, e4, e5⟩ := hgp
    have rwJ : ∀ c, rwI J o c = rwI I o c := fun c => rwI_eq (hJ.1 _ (by omega) (by omega)) c
    refine x_aload_n (pc := 10) hC dX12_conflict_10 rfl ?_
    refine x_getO (pc := 11) hC gf_X12_91 dX12_conflict_11 M.1 (mo_todo M).1 ?_
    refine x_aload_n (pc := 14) hC dX12_conflict_14 rfl ?_
    refine x_getI (pc := 15) hC gf_X12_271 dX12_conflict_15 M.1 ?_
    refine x_iald (pc := 18) hC dX12_conflict_18 (mo_todo M).2.1 (by omega) (by rw [(mo_todo M).2.2]; omega) ?_
    rw [j28, j47]
    refine x_istore_n (pc := 19) hC dX12_conflict_19 (Nat.le_of_ble_eq_true rfl) ?_
    dsimp only [List.set]
    refine x_bipush (pc := 20) hC dX12_conflict_20 (by decide) ?_
    refine x_iload_n (pc := 22) hC dX12_conflict_22 rfl ?_
    refine x_imul (pc := 23) hC dX12_conflict_23 ?_
    refine x_istore (pc := 24) hC dX12_conflict_24 (Nat.le_of_ble_eq_true rfl) ?_
    dsimp only [List.set]
    change axX _ _ _ _ _ _ [vR o, vI k, vI w, vI (goX I o), vI (6 * k)] _ _ _ _ _ _ _ _
    refine x_aload_n (pc := 26) hC dX12_conflict_26 rfl ?_
    refine x_aload_n (pc := 27) hC dX12_conflict_27 rfl ?_
    refine x_getO (pc := 28) hC gf_X12_13 dX12_conflict_28 M.1 (mo_parent M).1 ?_
    refine x_iload_n (pc := 31) hC dX12_conflict_31 rfl ?_
    refine x_iald (pc := 32) hC dX12_conflict_32 (mo_parent M).2.1 (by omega) (by rw [(mo_parent M).2.2]; omega) ?_
    refine x_aload_n (pc := 33) hC dX12_conflict_33 rfl ?_
    refine x_getI (pc := 34) hC gf_X12_265 dX12_conflict_34 M.1 ?_
    refine x_iload_n (pc := 37) hC dX12_conflict_37 rfl ?_
    refine x_iload (pc := 38) hC dX12_conflict_38 rfl ?_
    rw [jp, j43]
    refine x_mVx (pc := 40) hC cv_X12_239 dX12_conflict_40 (m_shapeOf M hlJ (by omega) (by omega) (by omega) (by omega) e0 e1 e2 e3 e4 e5 ⟨o0, o1, o2⟩ ⟨o3, o4, o5⟩ ⟨o6, o7, o8⟩) M.1 rfl (by decide) rfl rfl (Nat.le_of_ble_eq_true rfl) ?_
    rintro v J4 ⟨rfl, hA, hS0, hS1, h28, h29⟩
    dsimp only [Option.toList, List.nil_append]
    rw [rwJ, rwJ, rwJ] at hS0 hS1 h28 h29
    change shM J4 o 0 (shpSeq (cgB I o k) (cgO I o k) (cgT I o k)) at hS0
    change shM J4 o 1 (shpSeq (cgB I o k) (cgT I o k) (cgO I o k)) at hS1
    change J4 o 28 = (shpSeq (cgB I o k) (cgO I o k) (cgT I o k)).1.length at h28
    change J4 o 29 = lxF (shpSeq (cgB I o k) (cgO I o k) (cgT I o k)).1 (shpSeq (cgB I o k) (cgT I o k) (cgO I o k)).1 at h29
    obtain ⟨hfi, hsh, h28'⟩ := sh_pick hS0 hS1 h29 h28
    have hcl := (cShape_l (cgB I o k) (cgO I o k) (cgT I o k)).1
    have lB : ((cgB I o k).length : Int) = (cgG I o k).2.1 - (cgG I o k).1 := by unfold cgB; rw [seg_len]; omega
    have lO : ((cgO I o k).length : Int) = (cgG I o k).2.2.2.1 - (cgG I o k).2.2.1 := by unfold cgO; rw [seg_len]; omega
    have lT : ((cgT I o k).length : Int) = (cgG I o k).2.2.2.2.2 - (cgG I o k).2.2.2.2.1 := by unfold cgT; rw [seg_len]; omega
    have hF : scr I J4 o := hJ.tr hA.scre
    have g16 : J4 (o + 16) = J (o + 16) := hA.1 _ (by omega) (by omega) (by omega) (by omega)
    have k43 : J4 o 43 = I o 43 := hF.2 43 (by unfold sfd; omega)
    have kp : J4 (o + 2) = I (o + 2) := hF.1 _ (by omega) (by omega)
    have rw4 : ∀ c, rwI J4 o c = rwI I o c := fun c => rwI_eq (hF.1 _ (by omega) (by omega)) c
    have hres : cfR I o k w = cfV (cgB I o k) (cgO I o k) (cgT I o k) w := by unfold cfR; rw [if_pos b5]
    have f0 : J4 (o + 16) (6 * k) = (cgG I o k).1 := by rw [g16]; exact e0
    have f1 : J4 (o + 16) (6 * k + 1) = (cgG I o k).2.1 := by rw [g16]; exact e1
    have f2 : J4 (o + 16) (6 * k + 2) = (cgG I o k).2.2.1 := by rw [g16]; exact e2
    have f3 : J4 (o + 16) (6 * k + 3) = (cgG I o k).2.2.2.1 := by rw [g16]; exact e3
    have f4 : J4 (o + 16) (6 * k + 4) = (cgG I o k).2.2.2.2.1 := by rw [g16]; exact e4
    have f5 : J4 (o + 16) (6 * k + 5) = (cgG I o k).2.2.2.2.2 := by rw [g16]; exact e5
    refine x_iload_n (pc := 43) hC dX12_conflict_43 rfl ?_
    refine x_iconst (pc := 44) hC dX12_conflict_44 ?_
    refine x_iconst (pc := 45) hC dX12_conflict_45 ?_
    refine x_mS (pc := 46) hC cs_X12_139 dX12_conflict_46 (m_within hw (by decide) (by decide)) rfl (by decide) rfl rfl (Nat.le_of_ble_eq_true rfl) ?_
    refine x_ifB_eq (pc := 49) hC 78 dX12_conflict_49 (by decide) (fun b49 => ?_) (fun b49 => ?_)
    · refine x_iload_n (pc := 78) hC dX12_conflict_78 rfl ?_
      refine x_bipush (pc := 79) hC dX12_conflict_79 (by decide) ?_
      refine x_bipush (pc := 81) hC dX12_conflict_81 (by decide) ?_
      refine x_mS (pc := 83) hC cs_X12_139 dX12_conflict_83 (m_within hw (by decide) (by decide)) rfl (by decide) rfl rfl (Nat.le_of_ble_eq_true rfl) ?_
      refine x_ifB_eq (pc := 86) hC 120 dX12_conflict_86 (by decide) (fun b86 => ?_) (fun b86 => ?_)
      · refine x_iload_n (pc := 120) hC dX12_conflict_120 rfl ?_
        refine x_bipush (pc := 121) hC dX12_conflict_121 (by decide) ?_
        refine x_bipush (pc := 123) hC dX12_conflict_123 (by decide) ?_
        refine x_mS (pc := 125) hC cs_X12_139 dX12_conflict_125 (m_within hw (by decide) (by decide)) rfl (by decide) rfl rfl (Nat.le_of_ble_eq_true rfl) ?_
        refine x_ifB_eq (pc := 128) hC 162 dX12_conflict_128 (by decide) (fun b128 => ?_) (fun b128 => ?_)
        · refine x_iload_n (pc := 162) hC dX12_conflict_162 rfl ?_
          refine x_bipush (pc := 163) hC dX12_conflict_163 (by decide) ?_
          refine x_bipush (pc := 165) hC dX12_conflict_165 (by decide) ?_
          refine x_mS (pc := 167) hC cs_X12_139 dX12_conflict_167 (m_within hw (by decide) (by decide)) rfl (by decide) rfl rfl (Nat.le_of_ble_eq_true rfl) ?_
          refine x_ifB_eq (pc := 170) hC 201 dX12_conflict_170 (by decide) (fun b170 => ?_) (fun b170 => ?_)
          · refine x_iload_n (pc := 201) hC dX12_conflict_201 rfl ?_
            refine x_bipush (pc := 202) hC dX12_conflict_202 (by decide) ?_
            refine x_bipush (pc := 204) hC dX12_conflict_204 (by decide) ?_
            refine x_mS (pc := 206) hC cs_X12_139 dX12_conflict_206 (m_within hw (by decide) (by decide)) rfl (by decide) rfl rfl (Nat.le_of_ble_eq_true rfl) ?_
            refine x_ifB_eq (pc := 209) hC 246 dX12_conflict_209 (by decide) (fun b209 => ?_) (fun b209 => ?_)
            · refine x_iload_n (pc := 246) hC dX12_conflict_246 rfl ?_
              refine x_iconst (pc := 247) hC dX12_conflict_247 ?_
              refine x_icmp_ne (pc := 248) hC 258 dX12_conflict_248 (by decide) (by omega) (by omega) (fun b248 => ?_) (fun b248 => ?_)
              · refine x_iload_n (pc := 258) hC dX12_conflict_258 rfl ?_
                refine x_iconst (pc := 259) hC dX12_conflict_259 ?_
                refine x_icmp_ne (pc := 260) hC 270 dX12_conflict_260 (by decide) (by omega) (by omega) (fun b260 => ?_) (fun b260 => ?_)
                · refine x_bipush (pc := 270) hC dX12_conflict_270 (by decide) ?_
                  refine x_iret (pc := 272) hC rfl dX12_conflict_272 ?_
                  refine ⟨⟨?_, hF⟩, rfl, rfl, rfl, rfl⟩
                  rw [hres]
                  unfold cfV
                  rw [if_neg b49, if_neg b86, if_neg b128, if_neg b170, if_neg b209]
                  first
                  | (rw [if_pos (by omega), h28']; done)
                  | (rw [if_neg (by omega), if_pos (by omega), h29]; done)
                  | (rw [if_neg (by omega), if_neg (by omega)]; done)
                · refine x_aload_n (pc := 263) hC dX12_conflict_263 rfl ?_
                  refine x_getI (pc := 264) hC gf_X12_233 dX12_conflict_264 M.1 ?_
                  refine x_goto (pc := 267) hC 272 dX12_conflict_267 (by decide) ?_
                  refine x_iret (pc := 272) hC rfl dX12_conflict_272 ?_
                  refine ⟨⟨?_, hF⟩, rfl, rfl, rfl, rfl⟩
                  rw [hres]
                  unfold cfV
                  rw [if_neg b49, if_neg b86, if_neg b128, if_neg b170, if_neg b209]
                  first
                  | (rw [if_pos (by omega), h28']; done)
                  | (rw [if_neg (by omega), if_pos (by omega), h29]; done)
                  | (rw [if_neg (by omega), if_neg (by omega)]; done)
              · refine x_aload_n (pc := 251) hC dX12_conflict_251 rfl ?_
                refine x_getI (pc := 252) hC gf_X12_230 dX12_conflict_252 M.1 ?_
                refine x_goto (pc := 255) hC 272 dX12_conflict_255 (by decide) ?_
                refine x_iret (pc := 272) hC rfl dX12_conflict_272 ?_
                refine ⟨⟨?_, hF⟩, rfl, rfl, rfl, rfl⟩
                rw [hres]
                unfold cfV
                rw [if_neg b49, if_neg b86, if_neg b128, if_neg b170, if_neg b209]
                first
                | (rw [if_pos (by omega), h28']; done)
                | (rw [if_neg (by omega), if_pos (by omega), h29]; done)
                | (rw [if_neg (by omega), if_neg (by omega)]; done)
            · refine x_iload_n (pc := 212) hC dX12_conflict_212 rfl ?_
              refine x_bipush (pc := 213) hC dX12_conflict_213 (by decide) ?_
              refine x_isub (pc := 215) hC dX12_conflict_215 ?_
              refine x_aload_n (pc := 216) hC dX12_conflict_216 rfl ?_
              refine x_getI (pc := 217) hC gf_X12_230 dX12_conflict_217 M.1 ?_
              refine x_icmp_ge (pc := 220) hC 243 dX12_conflict_220 (by decide) (by omega) (by omega) (fun b220 => ?_) (fun b220 => ?_)
              · refine x_bipush (pc := 243) hC dX12_conflict_243 (by decide) ?_
                refine x_iret (pc := 245) hC rfl dX12_conflict_245 ?_
                refine ⟨⟨?_, hF⟩, rfl, rfl, rfl, rfl⟩
                rw [hres]
                unfold cfV
                rw [if_neg b49, if_neg b86, if_neg b128, if_neg b170, if_pos b209]
                have ha := atO_seg (f := J4 (o + 17)) (i := 51 * J4 o 29) (j := 51 * J4 o 29 + (cShape (cgB I o k) (cgO I o k) (cgT I o k)).1.length) (k := w - 70) (by omega) (by omega)
                rw [hsh.1] at ha
                rw [ha]
                first
                | (rw [if_pos (by omega), show 51 * J4 o 29 + (w - 70) = 51 * J4 o 29 + w - 70 by omega]; done)
                | (rw [if_neg (by omega)]; done)
              · refine x_aload_n (pc := 223) hC dX12_conflict_223 rfl ?_
                refine x_getO (pc := 224) hC gf_X12_58 dX12_conflict_224 M.1 (mo_shape M).1 ?_
                refine x_bipush (pc := 227) hC dX12_conflict_227 (by decide) ?_
                refine x_aload_n (pc := 229) hC dX12_conflict_229 rfl ?_
                refine x_getI (pc := 230) hC gf_X12_233 dX12_conflict_230 M.1 ?_
                refine x_imul (pc := 233) hC dX12_conflict_233 ?_
                refine x_iload_n (pc := 234) hC dX12_conflict_234 rfl ?_
                refine x_iadd (pc := 235) hC dX12_conflict_235 ?_
                refine x_bipush (pc := 236) hC dX12_conflict_236 (by decide) ?_
                refine x_isub (pc := 238) hC dX12_conflict_238 ?_
                refine x_iald (pc := 239) hC dX12_conflict_239 (mo_shape M).2.1 (by omega) (by rw [(mo_shape M).2.2]; omega) ?_
                refine x_goto (pc := 240) hC 245 dX12_conflict_240 (by decide) ?_
                refine x_iret (pc := 245) hC rfl dX12_conflict_245 ?_
                refine ⟨⟨?_, hF⟩, rfl, rfl, rfl, rfl⟩
                rw [hres]
                unfold cfV
                rw [if_neg b49, if_neg b86, if_neg b128, if_neg b170, if_pos b209]
                have ha := atO_seg (f := J4 (o + 17)) (i := 51 * J4 o 29) (j := 51 * J4 o 29 + (cShape (cgB I o k) (cgO I o k) (cgT I o k)).1.length) (k := w - 70) (by omega) (by omega)
                rw [hsh.1] at ha
                rw [ha]
                first
                | (rw [if_pos (by omega), show 51 * J4 o 29 + (w - 70) = 51 * J4 o 29 + w - 70 by omega]; done)
                | (rw [if_neg (by omega)]; done)
          · refine x_aload_n (pc := 173) hC dX12_conflict_173 rfl ?_
            refine x_iload_n (pc := 174) hC dX12_conflict_174 rfl ?_
            refine x_aload_n (pc := 175) hC dX12_conflict_175 rfl ?_
            refine x_getO (pc := 176) hC gf_X12_55 dX12_conflict_176 M.1 (mo_gapOf M).1 ?_
            refine x_iload (pc := 179) hC dX12_conflict_179 rfl ?_
            refine x_iconst (pc := 181) hC dX12_conflict_181 ?_
            refine x_iadd (pc := 182) hC dX12_conflict_182 ?_
            refine x_iald (pc := 183) hC dX12_conflict_183 (mo_gapOf M).2.1 (by omega) (by rw [(mo_gapOf M).2.2]; omega) ?_
            refine x_aload_n (pc := 184) hC dX12_conflict_184 rfl ?_
            refine x_getO (pc := 185) hC gf_X12_55 dX12_conflict_185 M.1 (mo_gapOf M).1 ?_
            refine x_iload (pc := 188) hC dX12_conflict_188 rfl ?_
            refine x_iconst (pc := 190) hC dX12_conflict_190 ?_
            refine x_iadd (pc := 191) hC dX12_conflict_191 ?_
            refine x_iald (pc := 192) hC dX12_conflict_192 (mo_gapOf M).2.1 (by omega) (by rw [(mo_gapOf M).2.2]; omega) ?_
            refine x_iload_n (pc := 193) hC dX12_conflict_193 rfl ?_
            refine x_bipush (pc := 194) hC dX12_conflict_194 (by decide) ?_
            refine x_isub (pc := 196) hC dX12_conflict_196 ?_
            refine x_mV (pc := 197) hC cv_X12_303 dX12_conflict_197 (m_partOf M (by omega) (by rw [f4, f5]; omega) (by omega)) M.1 rfl (by decide) rfl rfl (Nat.le_of_ble_eq_true rfl) ?_
            rw [f4, f5, rw4]
            refine x_iret (pc := 200) hC rfl dX12_conflict_200 ?_
            refine ⟨⟨?_, hF⟩, rfl, rfl, rfl, rfl⟩
            rw [hres]
            unfold cfV
            rw [if_neg b49, if_neg b86, if_neg b128, if_pos b170]
            rfl
        · refine x_aload_n (pc := 131) hC dX12_conflict_131 rfl ?_
          refine x_aload_n (pc := 132) hC dX12_conflict_132 rfl ?_
          refine x_getI (pc := 133) hC gf_X12_265 dX12_conflict_133 M.1 ?_
          refine x_aload_n (pc := 136) hC dX12_conflict_136 rfl ?_
          refine x_getO (pc := 137) hC gf_X12_55 dX12_conflict_137 M.1 (mo_gapOf M).1 ?_
          refine x_iload (pc := 140) hC dX12_conflict_140 rfl ?_
          refine x_iconst (pc := 142) hC dX12_conflict_142 ?_
          refine x_iadd (pc := 143) hC dX12_conflict_143 ?_
          refine x_iald (pc := 144) hC dX12_conflict_144 (mo_gapOf M).2.1 (by omega) (by rw [(mo_gapOf M).2.2]; omega) ?_
          refine x_aload_n (pc := 145) hC dX12_conflict_145 rfl ?_
          refine x_getO (pc := 146) hC gf_X12_55 dX12_conflict_146 M.1 (mo_gapOf M).1 ?_
          refine x_iload (pc := 149) hC dX12_conflict_149 rfl ?_
          refine x_iconst (pc := 151) hC dX12_conflict_151 ?_
          refine x_iadd (pc := 152) hC dX12_conflict_152 ?_
          refine x_iald (pc := 153) hC dX12_conflict_153 (mo_gapOf M).2.1 (by omega) (by rw [(mo_gapOf M).2.2]; omega) ?_
          refine x_iload_n (pc := 154) hC dX12_conflict_154 rfl ?_
          refine x_bipush (pc := 155) hC dX12_conflict_155 (by decide) ?_
          refine x_isub (pc := 157) hC dX12_conflict_157 ?_
          refine x_mV (pc := 158) hC cv_X12_303 dX12_conflict_158 (m_partOf M (by rw [k43]; omega) (by rw [f2, f3]; omega) (by omega)) M.1 rfl (by decide) rfl rfl (Nat.le_of_ble_eq_true rfl) ?_
          rw [k43, f2, f3, rw4]
          refine x_iret (pc := 161) hC rfl dX12_conflict_161 ?_
          refine ⟨⟨?_, hF⟩, rfl, rfl, rfl, rfl⟩
          rw [hres]
          unfold cfV
          rw [if_neg b49, if_neg b86, if_pos b128]
          rfl
      · refine x_aload_n (pc := 89) hC dX12_conflict_89 rfl ?_
        refine x_aload_n (pc := 90) hC dX12_conflict_90 rfl ?_
        refine x_getO (pc := 91) hC gf_X12_13 dX12_conflict_91 M.1 (mo_parent M).1 ?_
        refine x_iload_n (pc := 94) hC dX12_conflict_94 rfl ?_
        refine x_iald (pc := 95) hC dX12_conflict_95 (mo_parent M).2.1 (by omega) (by rw [(mo_parent M).2.2]; omega) ?_
        refine x_aload_n (pc := 96) hC dX12_conflict_96 rfl ?_
        refine x_getO (pc := 97) hC gf_X12_55 dX12_conflict_97 M.1 (mo_gapOf M).1 ?_
        refine x_iload (pc := 100) hC dX12_conflict_100 rfl ?_
        refine x_iald (pc := 102) hC dX12_conflict_102 (mo_gapOf M).2.1 (by omega) (by rw [(mo_gapOf M).2.2]; omega) ?_
        refine x_aload_n (pc := 103) hC dX12_conflict_103 rfl ?_
        refine x_getO (pc := 104) hC gf_X12_55 dX12_conflict_104 M.1 (mo_gapOf M).1 ?_
        refine x_iload (pc := 107) hC dX12_conflict_107 rfl ?_
        refine x_iconst (pc := 109) hC dX12_conflict_109 ?_
        refine x_iadd (pc := 110) hC dX12_conflict_110 ?_
        refine x_iald (pc := 111) hC dX12_conflict_111 (mo_gapOf M).2.1 (by omega) (by rw [(mo_gapOf M).2.2]; omega) ?_
        refine x_iload_n (pc := 112) hC dX12_conflict_112 rfl ?_
        refine x_bipush (pc := 113) hC dX12_conflict_113 (by decide) ?_
        refine x_isub (pc := 115) hC dX12_conflict_115 ?_
        refine x_mV (pc := 116) hC cv_X12_303 dX12_conflict_116 (m_partOf M (by rw [kp]; omega) (by rw [f0, f1]; omega) (by omega)) M.1 rfl (by decide) rfl rfl (Nat.le_of_ble_eq_true rfl) ?_
        rw [kp, f0, f1, rw4]
        refine x_iret (pc := 119) hC rfl dX12_conflict_119 ?_
        refine ⟨⟨?_, hF⟩, rfl, rfl, rfl, rfl⟩
        rw [hres]
        unfold cfV
        rw [if_neg b49, if_pos b86]
        rfl
    · refine x_aload_n (pc := 52) hC dX12_conflict_52 rfl ?_
      refine x_getO (pc := 53) hC gf_X12_55 dX12_conflict_53 M.1 (mo_gapOf M).1 ?_
      refine x_iload (pc := 56) hC dX12_conflict_56 rfl ?_
      refine x_iconst (pc := 58) hC dX12_conflict_58 ?_
      refine x_iload_n (pc := 59) hC dX12_conflict_59 rfl ?_
      refine x_imul (pc := 60) hC dX12_conflict_60 ?_
      refine x_iadd (pc := 61) hC dX12_conflict_61 ?_
      refine x_iconst (pc := 62) hC dX12_conflict_62 ?_
      refine x_iadd (pc := 63) hC dX12_conflict_63 ?_
      refine x_iald (pc := 64) hC dX12_conflict_64 (mo_gapOf M).2.1 (by omega) (by rw [(mo_gapOf M).2.2]; omega) ?_
      refine x_aload_n (pc := 65) hC dX12_conflict_65 rfl ?_
      refine x_getO (pc := 66) hC gf_X12_55 dX12_conflict_66 M.1 (mo_gapOf M).1 ?_
      refine x_iload (pc := 69) hC dX12_conflict_69 rfl ?_
      refine x_iconst (pc := 71) hC dX12_conflict_71 ?_
      refine x_iload_n (pc := 72) hC dX12_conflict_72 rfl ?_
      refine x_imul (pc := 73) hC dX12_conflict_73 ?_
      refine x_iadd (pc := 74) hC dX12_conflict_74 ?_
      refine x_iald (pc := 75) hC dX12_conflict_75 (mo_gapOf M).2.1 (by omega) (by rw [(mo_gapOf M).2.2]; omega) ?_
      refine x_isub (pc := 76) hC dX12_conflict_76 ?_
      refine x_iret (pc := 77) hC rfl dX12_conflict_77 ?_
      refine ⟨⟨?_, hF⟩, rfl, rfl, rfl, rfl⟩
      rw [hres]
      unfold cfV
      rw [if_pos b49]
      have hw3 : w = 0 ∨ w = 1 ∨ w = 2 := by omega
      rcases hw3 with rfl | rfl | rfl
      · rw [if_pos rfl, lB, show 6 * k + 2 * 0 = 6 * k by omega, f0, f1]
      · rw [if_neg (by decide), if_pos rfl, lO, show 6 * k + 2 * 1 = 6 * k + 2 by omega, f2, show 6 * k + 2 + 1 = 6 * k + 3 by omega, f3]
      · rw [if_neg (by decide), if_neg (by decide), lT, show 6 * k + 2 * 2 = 6 * k + 4 by omega, f4, show 6 * k + 4 + 1 = 6 * k + 5 by omega, f5]
  · refine x_iconst (pc := 8) hC dX12_conflict_8 ?_
    refine x_iret (pc := 9) hC rfl dX12_conflict_9 ?_
    exact ⟨⟨by unfold cfR; rw [if_neg b5], hJ⟩, rfl, rfl, rfl, rfl⟩

