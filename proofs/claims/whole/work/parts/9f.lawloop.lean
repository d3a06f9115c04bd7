/-! THE LAW: its loop -/
set_option maxHeartbeats 4000000 in
set_option maxRecDepth 100000 in
theorem lw_round {G : ax_G} {f : ax_F} {Q : ax_P} {T : Nat → Nat} {N : Nat → Int} {I : Nat → Int → Int} {R : Nat → Int → Option Nat} {z k n a o b Ls : Nat} {xs : Nat → Int32} {i s : Int} {nm : MethodName} (hC : axC G f (YL nm) RL 11 600000 7302250) (hX : va_X b Ls xs f.2.2.2.1 G.2.2.2.2.2) (hb : b < G.2.2.2.1) (hLs : Ls ≤ 3072) (hi0 : 0 ≤ i) (hi1 : i + 6 ≤ Ls) (LP : axLP G T N I R z a o s) (hs : s ≤ 2000000) (hk : 48 ≤ k) (hn : 528 ≤ n) (kk : ∀ (T2 : Nat → Nat) (N2 : Nat → Int) (I2 : Nat → Int → Int) (R2 : Nat → Int → Option Nat) (z2 k2 n2 : Nat), k ≤ k2 + 48 → n ≤ n2 + 528 → axLP G T2 N2 I2 R2 z2 a o (s + 25) → axX G f 600000 7302250 Q 1271 [vR b, vR a, vR o, vI i] [] T2 N2 I2 R2 z2 k2 n2) : axX G f 600000 7302250 Q 27 [vR b, vR a, vR o, vI i] [] T N I R z k n := by
  refine x_aload_n (pc := 27) hC dL_law_27 rfl ?_
  refine x_iload_n (pc := 28) hC dL_law_28 rfl ?_
  refine x_sald (pc := 29) hC hX hb dL_law_29 (by omega) (by omega) hLs ?_
  refine x_bipush (pc := 30) hC dL_law_30 (by decide) ?_
  refine x_iandU (pc := 32) hC dL_law_32 (fun v hv => ?_)
  by_cases h9 : v < 0 ∨ 35 < v
  · refine x_tswOut (pc := 33) hC 1271 dL_law_33 (by decide) hv h9 ?_
    obtain ⟨M, σ, A, w, h, hi, e⟩ := LP
    exact kk T N I R z k n (by omega) (by omega) ⟨M, σ, A, w, h, iv_up hi (by omega), e⟩
  · have hc : v = 0 ∨ v = 1 ∨ v = 2 ∨ v = 3 ∨ v = 4 ∨ v = 5 ∨ v = 6 ∨ v = 7 ∨ v = 8 ∨ v = 9 ∨ v = 10 ∨ v = 11 ∨ v = 12 ∨ v = 13 ∨ v = 14 ∨ v = 15 ∨ v = 16 ∨ v = 17 ∨ v = 18 ∨ v = 19 ∨ v = 20 ∨ v = 21 ∨ v = 22 ∨ v = 23 ∨ v = 24 ∨ v = 25 ∨ v = 26 ∨ v = 27 ∨ v = 28 ∨ v = 29 ∨ v = 30 ∨ v = 31 ∨ v = 32 ∨ v = 33 ∨ v = 34 ∨ v = 35 := by omega
    rcases hc with rfl | rfl | rfl | rfl | rfl | rfl | rfl | rfl | rfl | rfl | rfl | rfl | rfl | rfl | rfl | rfl | rfl | rfl | rfl | rfl | rfl | rfl | rfl | rfl | rfl | rfl | rfl | rfl | rfl | rfl | rfl | rfl | rfl | rfl | rfl | rfl
    · refine x_tswIn (pc := 33) hC 192 dL_law_33 (by decide) (by decide) (by decide) (off := 159) rfl (by decide) ?_
      exact lw_c0 hC hX hb hLs (by omega) (by omega) LP (by omega) (by omega) (by omega) kk
    · refine x_tswIn (pc := 33) hC 235 dL_law_33 (by decide) (by decide) (by decide) (off := 202) rfl (by decide) ?_
      exact lw_c1 hC hX hb hLs (by omega) (by omega) LP (by omega) (by omega) (by omega) kk
    · refine x_tswIn (pc := 33) hC 268 dL_law_33 (by decide) (by decide) (by decide) (off := 235) rfl (by decide) ?_
      exact lw_c2 hC hX hb hLs (by omega) (by omega) LP (by omega) (by omega) (by omega) kk
    · refine x_tswIn (pc := 33) hC 311 dL_law_33 (by decide) (by decide) (by decide) (off := 278) rfl (by decide) ?_
      exact lw_c3 hC hX hb hLs (by omega) (by omega) LP (by omega) (by omega) (by omega) kk
    · refine x_tswIn (pc := 33) hC 334 dL_law_33 (by decide) (by decide) (by decide) (off := 301) rfl (by decide) ?_
      exact lw_c4 hC hX hb hLs (by omega) (by omega) LP (by omega) (by omega) (by omega) kk
    · refine x_tswIn (pc := 33) hC 367 dL_law_33 (by decide) (by decide) (by decide) (off := 334) rfl (by decide) ?_
      exact lw_c5 hC hX hb hLs (by omega) (by omega) LP (by omega) (by omega) (by omega) kk
    · refine x_tswIn (pc := 33) hC 400 dL_law_33 (by decide) (by decide) (by decide) (off := 367) rfl (by decide) ?_
      exact lw_c6 hC hX hb hLs (by omega) (by omega) LP (by omega) (by omega) (by omega) kk
    · refine x_tswIn (pc := 33) hC 433 dL_law_33 (by decide) (by decide) (by decide) (off := 400) rfl (by decide) ?_
      exact lw_c7 hC hX hb hLs (by omega) (by omega) LP (by omega) (by omega) (by omega) kk
    · refine x_tswIn (pc := 33) hC 456 dL_law_33 (by decide) (by decide) (by decide) (off := 423) rfl (by decide) ?_
      exact lw_c8 hC hX hb hLs (by omega) (by omega) LP (by omega) (by omega) (by omega) kk
    · refine x_tswIn (pc := 33) hC 479 dL_law_33 (by decide) (by decide) (by decide) (off := 446) rfl (by decide) ?_
      exact lw_c9 hC hX hb hLs (by omega) (by omega) LP (by omega) (by omega) (by omega) kk
    · refine x_tswIn (pc := 33) hC 512 dL_law_33 (by decide) (by decide) (by decide) (off := 479) rfl (by decide) ?_
      exact lw_c10 hC hX hb hLs (by omega) (by omega) LP (by omega) (by omega) (by omega) kk
    · refine x_tswIn (pc := 33) hC 525 dL_law_33 (by decide) (by decide) (by decide) (off := 492) rfl (by decide) ?_
      exact lw_c11 hC hX hb hLs (by omega) (by omega) LP (by omega) (by omega) (by omega) kk
    · refine x_tswIn (pc := 33) hC 578 dL_law_33 (by decide) (by decide) (by decide) (off := 545) rfl (by decide) ?_
      exact lw_c12 hC hX hb hLs (by omega) (by omega) LP (by omega) (by omega) (by omega) kk
    · refine x_tswIn (pc := 33) hC 611 dL_law_33 (by decide) (by decide) (by decide) (off := 578) rfl (by decide) ?_
      exact lw_c13 hC hX hb hLs (by omega) (by omega) LP (by omega) (by omega) (by omega) kk
    · refine x_tswIn (pc := 33) hC 634 dL_law_33 (by decide) (by decide) (by decide) (off := 601) rfl (by decide) ?_
      exact lw_c14 hC hX hb hLs (by omega) (by omega) LP (by omega) (by omega) (by omega) kk
    · refine x_tswIn (pc := 33) hC 667 dL_law_33 (by decide) (by decide) (by decide) (off := 634) rfl (by decide) ?_
      exact lw_c15 hC hX hb hLs (by omega) (by omega) LP (by omega) (by omega) (by omega) kk
    · refine x_tswIn (pc := 33) hC 680 dL_law_33 (by decide) (by decide) (by decide) (off := 647) rfl (by decide) ?_
      exact lw_c16 hC hX hb hLs (by omega) (by omega) LP (by omega) (by omega) (by omega) kk
    · refine x_tswIn (pc := 33) hC 693 dL_law_33 (by decide) (by decide) (by decide) (off := 660) rfl (by decide) ?_
      exact lw_c17 hC hX hb hLs (by omega) (by omega) LP (by omega) (by omega) (by omega) kk
    · refine x_tswIn (pc := 33) hC 706 dL_law_33 (by decide) (by decide) (by decide) (off := 673) rfl (by decide) ?_
      exact lw_c18 hC hX hb hLs (by omega) (by omega) LP (by omega) (by omega) (by omega) kk
    · refine x_tswIn (pc := 33) hC 729 dL_law_33 (by decide) (by decide) (by decide) (off := 696) rfl (by decide) ?_
      exact lw_c19 hC hX hb hLs (by omega) (by omega) LP (by omega) (by omega) (by omega) kk
    · refine x_tswIn (pc := 33) hC 762 dL_law_33 (by decide) (by decide) (by decide) (off := 729) rfl (by decide) ?_
      exact lw_c20 hC hX hb hLs (by omega) (by omega) LP (by omega) (by omega) (by omega) kk
    · refine x_tswIn (pc := 33) hC 795 dL_law_33 (by decide) (by decide) (by decide) (off := 762) rfl (by decide) ?_
      exact lw_c21 hC hX hb hLs (by omega) (by omega) LP (by omega) (by omega) (by omega) kk
    · refine x_tswIn (pc := 33) hC 838 dL_law_33 (by decide) (by decide) (by decide) (off := 805) rfl (by decide) ?_
      exact lw_c22 hC hX hb hLs (by omega) (by omega) LP (by omega) (by omega) (by omega) kk
    · refine x_tswIn (pc := 33) hC 881 dL_law_33 (by decide) (by decide) (by decide) (off := 848) rfl (by decide) ?_
      exact lw_c23 hC hX hb hLs (by omega) (by omega) LP (by omega) (by omega) (by omega) kk
    · refine x_tswIn (pc := 33) hC 914 dL_law_33 (by decide) (by decide) (by decide) (off := 881) rfl (by decide) ?_
      exact lw_c24 hC hX hb hLs (by omega) (by omega) LP (by omega) (by omega) (by omega) kk
    · refine x_tswIn (pc := 33) hC 947 dL_law_33 (by decide) (by decide) (by decide) (off := 914) rfl (by decide) ?_
      exact lw_c25 hC hX hb hLs (by omega) (by omega) LP (by omega) (by omega) (by omega) kk
    · refine x_tswIn (pc := 33) hC 980 dL_law_33 (by decide) (by decide) (by decide) (off := 947) rfl (by decide) ?_
      exact lw_c26 hC hX hb hLs (by omega) (by omega) LP (by omega) (by omega) (by omega) kk
    · refine x_tswIn (pc := 33) hC 1003 dL_law_33 (by decide) (by decide) (by decide) (off := 970) rfl (by decide) ?_
      exact lw_c27 hC hX hb hLs (by omega) (by omega) LP (by omega) (by omega) (by omega) kk
    · refine x_tswIn (pc := 33) hC 1036 dL_law_33 (by decide) (by decide) (by decide) (off := 1003) rfl (by decide) ?_
      exact lw_c28 hC hX hb hLs (by omega) (by omega) LP (by omega) (by omega) (by omega) kk
    · refine x_tswIn (pc := 33) hC 1059 dL_law_33 (by decide) (by decide) (by decide) (off := 1026) rfl (by decide) ?_
      exact lw_c29 hC hX hb hLs (by omega) (by omega) LP (by omega) (by omega) (by omega) kk
    · refine x_tswIn (pc := 33) hC 1102 dL_law_33 (by decide) (by decide) (by decide) (off := 1069) rfl (by decide) ?_
      exact lw_c30 hC hX hb hLs (by omega) (by omega) LP (by omega) (by omega) (by omega) kk
    · refine x_tswIn (pc := 33) hC 1136 dL_law_33 (by decide) (by decide) (by decide) (off := 1103) rfl (by decide) ?_
      exact lw_c31 hC hX hb hLs (by omega) (by omega) LP (by omega) (by omega) (by omega) kk
    · refine x_tswIn (pc := 33) hC 1199 dL_law_33 (by decide) (by decide) (by decide) (off := 1166) rfl (by decide) ?_
      exact lw_c32 hC hX hb hLs (by omega) (by omega) LP (by omega) (by omega) (by omega) kk
    · refine x_tswIn (pc := 33) hC 1222 dL_law_33 (by decide) (by decide) (by decide) (off := 1189) rfl (by decide) ?_
      exact lw_c33 hC hX hb hLs (by omega) (by omega) LP (by omega) (by omega) (by omega) kk
    · refine x_tswIn (pc := 33) hC 1235 dL_law_33 (by decide) (by decide) (by decide) (off := 1202) rfl (by decide) ?_
      exact lw_c34 hC hX hb hLs (by omega) (by omega) LP (by omega) (by omega) (by omega) kk
    · refine x_tswIn (pc := 33) hC 1248 dL_law_33 (by decide) (by decide) (by decide) (off := 1215) rfl (by decide) ?_
      exact lw_c35 hC hX hb hLs (by omega) (by omega) LP (by omega) (by omega) (by omega) kk
set_option maxHeartbeats 4000000 in
set_option maxRecDepth 100000 in
theorem lw_loop {G : ax_G} {f : ax_F} {Q : ax_P} {a o b Ls : Nat} {xs : Nat → Int32} {nm : MethodName} (hC : axC G f (YL nm) RL 11 600000 7302250) (hX : va_X b Ls xs f.2.2.2.1 G.2.2.2.2.2) (hb : b < G.2.2.2.1) (hLs : Ls ≤ 3072) (hQ : ∀ (T : Nat → Nat) (N : Nat → Int) (I : Nat → Int → Int) (R : Nat → Int → Option Nat) (z : Nat), Q (some (vI 1)) T N I R z) : ∀ (m : Nat) (t : Int) (T : Nat → Nat) (N : Nat → Int) (I : Nat → Int → Int) (R : Nat → Int → Option Nat) (z k n : Nat), t + m = 513 → 0 ≤ t → 48 * m ≤ k → 528 * m ≤ n → axLP G T N I R z a o (1 + 25 * t) → axX G f 600000 7302250 Q 18 [vR b, vR a, vR o, vI (6 * t)] [] T N I R z k n := by
  have last : ∀ (t : Int) (T : Nat → Nat) (N : Nat → Int) (I : Nat → Int → Int) (R : Nat → Int → Option Nat) (z k n : Nat), axX G f 600000 7302250 Q 1277 [vR b, vR a, vR o, vI (6 * t)] [] T N I R z k n := by
    intro t T N I R z k n
    refine x_iconst (pc := 1277) hC dL_law_1277 ?_
    exact x_zret (pc := 1278) hC rfl dL_law_1278 (Or.inr rfl) (hQ T N I R z)
  have first : ∀ (t : Int) (T : Nat → Nat) (N : Nat → Int) (I : Nat → Int → Int) (R : Nat → Int → Option Nat) (z k n : Nat), 0 ≤ t → t ≤ 513 → (6 * t + 6 ≤ Ls → axX G f 600000 7302250 Q 27 [vR b, vR a, vR o, vI (6 * t)] [] T N I R z k n) → axX G f 600000 7302250 Q 18 [vR b, vR a, vR o, vI (6 * t)] [] T N I R z k n := by
    intro t T N I R z k n t0 t1 hk
    refine x_iload_n (pc := 18) hC dL_law_18 rfl ?_
    refine x_aload_n (pc := 19) hC dL_law_19 rfl ?_
    refine x_slen (pc := 20) hC hX hb dL_law_20 ?_
    refine x_bipush (pc := 21) hC dL_law_21 (by decide) ?_
    refine x_isub (pc := 23) hC dL_law_23 ?_
    refine x_icmp_gt (pc := 24) hC 1277 dL_law_24 (by decide) ⟨by omega, by omega⟩ ⟨by omega, by omega⟩ (fun _ => last t T N I R z k n) (fun h9 => ?_)
    exact hk (by omega)
  intro m
  induction m with
  | zero =>
    intro t T N I R z k n h1 h2 h3 h4 h5
    exact first t T N I R z k n h2 (by omega) (fun h9 => by omega)
  | succ m ih =>
    intro t T N I R z k n h1 h2 h3 h4 h5
    refine first t T N I R z k n h2 (by omega) (fun h9 => ?_)
    refine lw_round hC hX hb hLs (by omega) h9 h5 (by omega) (by omega) (by omega) (fun T2 N2 I2 R2 z2 k2 n2 g1 g2 g3 => ?_)
    refine x_iinc (pc := 1271) hC dL_law_1271 rfl ?_
    dsimp only [List.set]
    refine x_goto (pc := 1274) hC 18 dL_law_1274 (by decide) ?_
    have e1 : 6 * t + 6 = 6 * (t + 1) := by omega
    have e2 : 1 + 25 * t + 25 = 1 + 25 * (t + 1) := by omega
    rw [e1]
    rw [e2] at g3
    exact ih (t + 1) T2 N2 I2 R2 z2 k2 n2 (by omega) (by omega) (by omega) (by omega) g3

