/-! THE LAW: one round of its loop, by the call that it makes -/

set_option maxHeartbeats 4000000 in
set_option maxRecDepth 100000 in
theorem lw_c0 {G : ax_G} {f : ax_F} {Q : ax_P} {T : Nat → Nat} {N : Nat → Int} {I : Nat → Int → Int} {R : Nat → Int → Option Nat} {z k n a o b Ls : Nat} {xs : Nat → Int32} {i s : Int} {nm : MethodName} (hC : axC G f (YL nm) RL 11 600000 7302250) (hX : va_X b Ls xs f.2.2.2.1 G.2.2.2.2.2) (hb : b < G.2.2.2.1) (hLs : Ls ≤ 3072) (hi0 : 0 ≤ i) (hi1 : i + 6 ≤ Ls) (LP : axLP G T N I R z a o s) (hs : s ≤ 2000000) (hk : 48 ≤ k) (hn : 528 ≤ n) (kk : ∀ (T2 : Nat → Nat) (N2 : Nat → Int) (I2 : Nat → Int → Int) (R2 : Nat → Int → Option Nat) (z2 k2 n2 : Nat), k ≤ k2 + 48 → n ≤ n2 + 528 → axLP G T2 N2 I2 R2 z2 a o (s + 25) → axX G f 600000 7302250 Q 1271 [vR b, vR a, vR o, vI i] [] T2 N2 I2 R2 z2 k2 n2) : axX G f 600000 7302250 Q 192 [vR b, vR a, vR o, vI i] [] T N I R z k n := by
  obtain ⟨M, σ, A, w, h, hi, e⟩ := LP
  obtain ⟨v, hv⟩ := pr_commit M h hi e hs (i32_r (xs (i + 1).toNat)) (i32_r (xs (i + 2).toNat)) (i32_r (xs (i + 3).toNat))
  unfold PRC at hv
  have ta : T a = 11 := fx_ta (rl_fx h)
  refine x_aload_n (pc := 192) hC dL_law_192 rfl ?_
  refine x_aload_n (pc := 193) hC dL_law_193 rfl ?_
  refine x_iload_n (pc := 194) hC dL_law_194 rfl ?_
  refine x_iconst (pc := 195) hC dL_law_195 ?_
  refine x_iadd (pc := 196) hC dL_law_196 ?_
  refine x_sald (pc := 197) hC hX hb dL_law_197 (by omega) (by omega) hLs ?_
  refine x_aload_n (pc := 198) hC dL_law_198 rfl ?_
  refine x_iload_n (pc := 199) hC dL_law_199 rfl ?_
  refine x_iconst (pc := 200) hC dL_law_200 ?_
  refine x_iadd (pc := 201) hC dL_law_201 ?_
  refine x_sald (pc := 202) hC hX hb dL_law_202 (by omega) (by omega) hLs ?_
  refine x_aload_n (pc := 203) hC dL_law_203 rfl ?_
  refine x_iload_n (pc := 204) hC dL_law_204 rfl ?_
  refine x_iconst (pc := 205) hC dL_law_205 ?_
  refine x_iadd (pc := 206) hC dL_law_206 ?_
  refine x_sald (pc := 207) hC hX hb dL_law_207 (by omega) (by omega) hLs ?_
  refine x_callV (pc := 208) hC cv_L_13 dL_law_208 hv ta rfl (by decide) (by omega) (by omega) rfl rfl (Nat.le_of_ble_eq_true rfl) (fun r1 T1 N1 I1 R1 z1 q => ?_)
  obtain ⟨rfl, to, hm⟩ := q
  dsimp only [Option.toList, List.cons_append, List.nil_append]
  refine x_aload_n (pc := 211) hC dL_law_211 rfl ?_
  refine x_aload_n (pc := 212) hC dL_law_212 rfl ?_
  refine x_iload_n (pc := 213) hC dL_law_213 rfl ?_
  refine x_iconst (pc := 214) hC dL_law_214 ?_
  refine x_iadd (pc := 215) hC dL_law_215 ?_
  refine x_sald (pc := 216) hC hX hb dL_law_216 (by omega) (by omega) hLs ?_
  refine x_aload_n (pc := 217) hC dL_law_217 rfl ?_
  refine x_iload_n (pc := 218) hC dL_law_218 rfl ?_
  refine x_iconst (pc := 219) hC dL_law_219 ?_
  refine x_iadd (pc := 220) hC dL_law_220 ?_
  refine x_sald (pc := 221) hC hX hb dL_law_221 (by omega) (by omega) hLs ?_
  refine x_aload_n (pc := 222) hC dL_law_222 rfl ?_
  refine x_iload_n (pc := 223) hC dL_law_223 rfl ?_
  refine x_iconst (pc := 224) hC dL_law_224 ?_
  refine x_iadd (pc := 225) hC dL_law_225 ?_
  refine x_sald (pc := 226) hC hX hb dL_law_226 (by omega) (by omega) hLs ?_
  refine x_callV (pc := 227) hC cv_L_17 dL_law_227 hm to rfl (by decide) (Nat.zero_le _) (Nat.zero_le _) rfl rfl (Nat.le_of_ble_eq_true rfl) (fun r2 T2 N2 I2 R2 z2 q => ?_)
  obtain ⟨rfl, hLP⟩ := q
  dsimp only [Option.toList, List.cons_append, List.nil_append]
  refine x_icmp_same (pc := 230) hC 1271 dL_law_230 (by decide) rfl ?_
  exact kk T2 N2 I2 R2 z2 _ _ (by omega) (by omega) hLP

set_option maxHeartbeats 4000000 in
set_option maxRecDepth 100000 in
theorem lw_c1 {G : ax_G} {f : ax_F} {Q : ax_P} {T : Nat → Nat} {N : Nat → Int} {I : Nat → Int → Int} {R : Nat → Int → Option Nat} {z k n a o b Ls : Nat} {xs : Nat → Int32} {i s : Int} {nm : MethodName} (hC : axC G f (YL nm) RL 11 600000 7302250) (hX : va_X b Ls xs f.2.2.2.1 G.2.2.2.2.2) (hb : b < G.2.2.2.1) (hLs : Ls ≤ 3072) (hi0 : 0 ≤ i) (hi1 : i + 6 ≤ Ls) (LP : axLP G T N I R z a o s) (hs : s ≤ 2000000) (hk : 48 ≤ k) (hn : 528 ≤ n) (kk : ∀ (T2 : Nat → Nat) (N2 : Nat → Int) (I2 : Nat → Int → Int) (R2 : Nat → Int → Option Nat) (z2 k2 n2 : Nat), k ≤ k2 + 48 → n ≤ n2 + 528 → axLP G T2 N2 I2 R2 z2 a o (s + 25) → axX G f 600000 7302250 Q 1271 [vR b, vR a, vR o, vI i] [] T2 N2 I2 R2 z2 k2 n2) : axX G f 600000 7302250 Q 235 [vR b, vR a, vR o, vI i] [] T N I R z k n := by
  obtain ⟨M, σ, A, w, h, hi, e⟩ := LP
  obtain ⟨v, hv⟩ := pr_ofCommit M h hi e hs (i32_r (xs (i + 1).toNat)) (i32_r (xs (i + 2).toNat))
  unfold PRC at hv
  have ta : T a = 11 := fx_ta (rl_fx h)
  refine x_aload_n (pc := 235) hC dL_law_235 rfl ?_
  refine x_aload_n (pc := 236) hC dL_law_236 rfl ?_
  refine x_iload_n (pc := 237) hC dL_law_237 rfl ?_
  refine x_iconst (pc := 238) hC dL_law_238 ?_
  refine x_iadd (pc := 239) hC dL_law_239 ?_
  refine x_sald (pc := 240) hC hX hb dL_law_240 (by omega) (by omega) hLs ?_
  refine x_aload_n (pc := 241) hC dL_law_241 rfl ?_
  refine x_iload_n (pc := 242) hC dL_law_242 rfl ?_
  refine x_iconst (pc := 243) hC dL_law_243 ?_
  refine x_iadd (pc := 244) hC dL_law_244 ?_
  refine x_sald (pc := 245) hC hX hb dL_law_245 (by omega) (by omega) hLs ?_
  refine x_callV (pc := 246) hC cv_L_18 dL_law_246 hv ta rfl (by decide) (by omega) (by omega) rfl rfl (Nat.le_of_ble_eq_true rfl) (fun r1 T1 N1 I1 R1 z1 q => ?_)
  obtain ⟨rfl, to, hm⟩ := q
  dsimp only [Option.toList, List.cons_append, List.nil_append]
  refine x_aload_n (pc := 249) hC dL_law_249 rfl ?_
  refine x_aload_n (pc := 250) hC dL_law_250 rfl ?_
  refine x_iload_n (pc := 251) hC dL_law_251 rfl ?_
  refine x_iconst (pc := 252) hC dL_law_252 ?_
  refine x_iadd (pc := 253) hC dL_law_253 ?_
  refine x_sald (pc := 254) hC hX hb dL_law_254 (by omega) (by omega) hLs ?_
  refine x_aload_n (pc := 255) hC dL_law_255 rfl ?_
  refine x_iload_n (pc := 256) hC dL_law_256 rfl ?_
  refine x_iconst (pc := 257) hC dL_law_257 ?_
  refine x_iadd (pc := 258) hC dL_law_258 ?_
  refine x_sald (pc := 259) hC hX hb dL_law_259 (by omega) (by omega) hLs ?_
  refine x_callV (pc := 260) hC cv_L_22 dL_law_260 hm to rfl (by decide) (Nat.zero_le _) (Nat.zero_le _) rfl rfl (Nat.le_of_ble_eq_true rfl) (fun r2 T2 N2 I2 R2 z2 q => ?_)
  obtain ⟨rfl, hLP⟩ := q
  dsimp only [Option.toList, List.cons_append, List.nil_append]
  refine x_icmp_same (pc := 263) hC 1271 dL_law_263 (by decide) rfl ?_
  exact kk T2 N2 I2 R2 z2 _ _ (by omega) (by omega) hLP

set_option maxHeartbeats 4000000 in
set_option maxRecDepth 100000 in
theorem lw_c2 {G : ax_G} {f : ax_F} {Q : ax_P} {T : Nat → Nat} {N : Nat → Int} {I : Nat → Int → Int} {R : Nat → Int → Option Nat} {z k n a o b Ls : Nat} {xs : Nat → Int32} {i s : Int} {nm : MethodName} (hC : axC G f (YL nm) RL 11 600000 7302250) (hX : va_X b Ls xs f.2.2.2.1 G.2.2.2.2.2) (hb : b < G.2.2.2.1) (hLs : Ls ≤ 3072) (hi0 : 0 ≤ i) (hi1 : i + 6 ≤ Ls) (LP : axLP G T N I R z a o s) (hs : s ≤ 2000000) (hk : 48 ≤ k) (hn : 528 ≤ n) (kk : ∀ (T2 : Nat → Nat) (N2 : Nat → Int) (I2 : Nat → Int → Int) (R2 : Nat → Int → Option Nat) (z2 k2 n2 : Nat), k ≤ k2 + 48 → n ≤ n2 + 528 → axLP G T2 N2 I2 R2 z2 a o (s + 25) → axX G f 600000 7302250 Q 1271 [vR b, vR a, vR o, vI i] [] T2 N2 I2 R2 z2 k2 n2) : axX G f 600000 7302250 Q 268 [vR b, vR a, vR o, vI i] [] T N I R z k n := by
  obtain ⟨M, σ, A, w, h, hi, e⟩ := LP
  obtain ⟨v, hv⟩ := pr_piece M h hi e hs (i32_r (xs (i + 1).toNat)) (i32_r (xs (i + 2).toNat)) (i32_r (xs (i + 3).toNat))
  unfold PRC at hv
  have ta : T a = 11 := fx_ta (rl_fx h)
  refine x_aload_n (pc := 268) hC dL_law_268 rfl ?_
  refine x_aload_n (pc := 269) hC dL_law_269 rfl ?_
  refine x_iload_n (pc := 270) hC dL_law_270 rfl ?_
  refine x_iconst (pc := 271) hC dL_law_271 ?_
  refine x_iadd (pc := 272) hC dL_law_272 ?_
  refine x_sald (pc := 273) hC hX hb dL_law_273 (by omega) (by omega) hLs ?_
  refine x_aload_n (pc := 274) hC dL_law_274 rfl ?_
  refine x_iload_n (pc := 275) hC dL_law_275 rfl ?_
  refine x_iconst (pc := 276) hC dL_law_276 ?_
  refine x_iadd (pc := 277) hC dL_law_277 ?_
  refine x_sald (pc := 278) hC hX hb dL_law_278 (by omega) (by omega) hLs ?_
  refine x_aload_n (pc := 279) hC dL_law_279 rfl ?_
  refine x_iload_n (pc := 280) hC dL_law_280 rfl ?_
  refine x_iconst (pc := 281) hC dL_law_281 ?_
  refine x_iadd (pc := 282) hC dL_law_282 ?_
  refine x_sald (pc := 283) hC hX hb dL_law_283 (by omega) (by omega) hLs ?_
  refine x_callV (pc := 284) hC cv_L_23 dL_law_284 hv ta rfl (by decide) (by omega) (by omega) rfl rfl (Nat.le_of_ble_eq_true rfl) (fun r1 T1 N1 I1 R1 z1 q => ?_)
  obtain ⟨rfl, to, hm⟩ := q
  dsimp only [Option.toList, List.cons_append, List.nil_append]
  refine x_aload_n (pc := 287) hC dL_law_287 rfl ?_
  refine x_aload_n (pc := 288) hC dL_law_288 rfl ?_
  refine x_iload_n (pc := 289) hC dL_law_289 rfl ?_
  refine x_iconst (pc := 290) hC dL_law_290 ?_
  refine x_iadd (pc := 291) hC dL_law_291 ?_
  refine x_sald (pc := 292) hC hX hb dL_law_292 (by omega) (by omega) hLs ?_
  refine x_aload_n (pc := 293) hC dL_law_293 rfl ?_
  refine x_iload_n (pc := 294) hC dL_law_294 rfl ?_
  refine x_iconst (pc := 295) hC dL_law_295 ?_
  refine x_iadd (pc := 296) hC dL_law_296 ?_
  refine x_sald (pc := 297) hC hX hb dL_law_297 (by omega) (by omega) hLs ?_
  refine x_aload_n (pc := 298) hC dL_law_298 rfl ?_
  refine x_iload_n (pc := 299) hC dL_law_299 rfl ?_
  refine x_iconst (pc := 300) hC dL_law_300 ?_
  refine x_iadd (pc := 301) hC dL_law_301 ?_
  refine x_sald (pc := 302) hC hX hb dL_law_302 (by omega) (by omega) hLs ?_
  refine x_callV (pc := 303) hC cv_L_26 dL_law_303 hm to rfl (by decide) (Nat.zero_le _) (Nat.zero_le _) rfl rfl (Nat.le_of_ble_eq_true rfl) (fun r2 T2 N2 I2 R2 z2 q => ?_)
  obtain ⟨rfl, hLP⟩ := q
  dsimp only [Option.toList, List.cons_append, List.nil_append]
  refine x_icmp_same (pc := 306) hC 1271 dL_law_306 (by decide) rfl ?_
  exact kk T2 N2 I2 R2 z2 _ _ (by omega) (by omega) hLP

set_option maxHeartbeats 4000000 in
set_option maxRecDepth 100000 in
theorem lw_c3 {G : ax_G} {f : ax_F} {Q : ax_P} {T : Nat → Nat} {N : Nat → Int} {I : Nat → Int → Int} {R : Nat → Int → Option Nat} {z k n a o b Ls : Nat} {xs : Nat → Int32} {i s : Int} {nm : MethodName} (hC : axC G f (YL nm) RL 11 600000 7302250) (hX : va_X b Ls xs f.2.2.2.1 G.2.2.2.2.2) (hb : b < G.2.2.2.1) (hLs : Ls ≤ 3072) (hi0 : 0 ≤ i) (hi1 : i + 6 ≤ Ls) (LP : axLP G T N I R z a o s) (hs : s ≤ 2000000) (hk : 48 ≤ k) (hn : 528 ≤ n) (kk : ∀ (T2 : Nat → Nat) (N2 : Nat → Int) (I2 : Nat → Int → Int) (R2 : Nat → Int → Option Nat) (z2 k2 n2 : Nat), k ≤ k2 + 48 → n ≤ n2 + 528 → axLP G T2 N2 I2 R2 z2 a o (s + 25) → axX G f 600000 7302250 Q 1271 [vR b, vR a, vR o, vI i] [] T2 N2 I2 R2 z2 k2 n2) : axX G f 600000 7302250 Q 311 [vR b, vR a, vR o, vI i] [] T N I R z k n := by
  obtain ⟨M, σ, A, w, h, hi, e⟩ := LP
  obtain ⟨v, hv⟩ := pr_mark M h hi e hs (i32_r (xs (i + 1).toNat))
  unfold PRC at hv
  have ta : T a = 11 := fx_ta (rl_fx h)
  refine x_aload_n (pc := 311) hC dL_law_311 rfl ?_
  refine x_aload_n (pc := 312) hC dL_law_312 rfl ?_
  refine x_iload_n (pc := 313) hC dL_law_313 rfl ?_
  refine x_iconst (pc := 314) hC dL_law_314 ?_
  refine x_iadd (pc := 315) hC dL_law_315 ?_
  refine x_sald (pc := 316) hC hX hb dL_law_316 (by omega) (by omega) hLs ?_
  refine x_callV (pc := 317) hC cv_L_27 dL_law_317 hv ta rfl (by decide) (by omega) (by omega) rfl rfl (Nat.le_of_ble_eq_true rfl) (fun r1 T1 N1 I1 R1 z1 q => ?_)
  obtain ⟨rfl, to, hm⟩ := q
  dsimp only [Option.toList, List.cons_append, List.nil_append]
  refine x_aload_n (pc := 320) hC dL_law_320 rfl ?_
  refine x_aload_n (pc := 321) hC dL_law_321 rfl ?_
  refine x_iload_n (pc := 322) hC dL_law_322 rfl ?_
  refine x_iconst (pc := 323) hC dL_law_323 ?_
  refine x_iadd (pc := 324) hC dL_law_324 ?_
  refine x_sald (pc := 325) hC hX hb dL_law_325 (by omega) (by omega) hLs ?_
  refine x_callV (pc := 326) hC cv_L_31 dL_law_326 hm to rfl (by decide) (Nat.zero_le _) (Nat.zero_le _) rfl rfl (Nat.le_of_ble_eq_true rfl) (fun r2 T2 N2 I2 R2 z2 q => ?_)
  obtain ⟨rfl, hLP⟩ := q
  dsimp only [Option.toList, List.cons_append, List.nil_append]
  refine x_icmp_same (pc := 329) hC 1271 dL_law_329 (by decide) rfl ?_
  exact kk T2 N2 I2 R2 z2 _ _ (by omega) (by omega) hLP

set_option maxHeartbeats 4000000 in
set_option maxRecDepth 100000 in
theorem lw_c4 {G : ax_G} {f : ax_F} {Q : ax_P} {T : Nat → Nat} {N : Nat → Int} {I : Nat → Int → Int} {R : Nat → Int → Option Nat} {z k n a o b Ls : Nat} {xs : Nat → Int32} {i s : Int} {nm : MethodName} (hC : axC G f (YL nm) RL 11 600000 7302250) (hX : va_X b Ls xs f.2.2.2.1 G.2.2.2.2.2) (hb : b < G.2.2.2.1) (hLs : Ls ≤ 3072) (hi0 : 0 ≤ i) (hi1 : i + 6 ≤ Ls) (LP : axLP G T N I R z a o s) (hs : s ≤ 2000000) (hk : 48 ≤ k) (hn : 528 ≤ n) (kk : ∀ (T2 : Nat → Nat) (N2 : Nat → Int) (I2 : Nat → Int → Int) (R2 : Nat → Int → Option Nat) (z2 k2 n2 : Nat), k ≤ k2 + 48 → n ≤ n2 + 528 → axLP G T2 N2 I2 R2 z2 a o (s + 25) → axX G f 600000 7302250 Q 1271 [vR b, vR a, vR o, vI i] [] T2 N2 I2 R2 z2 k2 n2) : axX G f 600000 7302250 Q 334 [vR b, vR a, vR o, vI i] [] T N I R z k n := by
  obtain ⟨M, σ, A, w, h, hi, e⟩ := LP
  obtain ⟨v, hv⟩ := pr_alike M h hi e hs (i32_r (xs (i + 1).toNat)) (i32_r (xs (i + 2).toNat))
  unfold PRC at hv
  have ta : T a = 11 := fx_ta (rl_fx h)
  refine x_aload_n (pc := 334) hC dL_law_334 rfl ?_
  refine x_aload_n (pc := 335) hC dL_law_335 rfl ?_
  refine x_iload_n (pc := 336) hC dL_law_336 rfl ?_
  refine x_iconst (pc := 337) hC dL_law_337 ?_
  refine x_iadd (pc := 338) hC dL_law_338 ?_
  refine x_sald (pc := 339) hC hX hb dL_law_339 (by omega) (by omega) hLs ?_
  refine x_aload_n (pc := 340) hC dL_law_340 rfl ?_
  refine x_iload_n (pc := 341) hC dL_law_341 rfl ?_
  refine x_iconst (pc := 342) hC dL_law_342 ?_
  refine x_iadd (pc := 343) hC dL_law_343 ?_
  refine x_sald (pc := 344) hC hX hb dL_law_344 (by omega) (by omega) hLs ?_
  refine x_callV (pc := 345) hC cv_L_32 dL_law_345 hv ta rfl (by decide) (by omega) (by omega) rfl rfl (Nat.le_of_ble_eq_true rfl) (fun r1 T1 N1 I1 R1 z1 q => ?_)
  obtain ⟨rfl, to, hm⟩ := q
  dsimp only [Option.toList, List.cons_append, List.nil_append]
  refine x_aload_n (pc := 348) hC dL_law_348 rfl ?_
  refine x_aload_n (pc := 349) hC dL_law_349 rfl ?_
  refine x_iload_n (pc := 350) hC dL_law_350 rfl ?_
  refine x_iconst (pc := 351) hC dL_law_351 ?_
  refine x_iadd (pc := 352) hC dL_law_352 ?_
  refine x_sald (pc := 353) hC hX hb dL_law_353 (by omega) (by omega) hLs ?_
  refine x_aload_n (pc := 354) hC dL_law_354 rfl ?_
  refine x_iload_n (pc := 355) hC dL_law_355 rfl ?_
  refine x_iconst (pc := 356) hC dL_law_356 ?_
  refine x_iadd (pc := 357) hC dL_law_357 ?_
  refine x_sald (pc := 358) hC hX hb dL_law_358 (by omega) (by omega) hLs ?_
  refine x_callV (pc := 359) hC cv_L_35 dL_law_359 hm to rfl (by decide) (Nat.zero_le _) (Nat.zero_le _) rfl rfl (Nat.le_of_ble_eq_true rfl) (fun r2 T2 N2 I2 R2 z2 q => ?_)
  obtain ⟨rfl, hLP⟩ := q
  dsimp only [Option.toList, List.cons_append, List.nil_append]
  refine x_icmp_same (pc := 362) hC 1271 dL_law_362 (by decide) rfl ?_
  exact kk T2 N2 I2 R2 z2 _ _ (by omega) (by omega) hLP

set_option maxHeartbeats 4000000 in
set_option maxRecDepth 100000 in
theorem lw_c5 {G : ax_G} {f : ax_F} {Q : ax_P} {T : Nat → Nat} {N : Nat → Int} {I : Nat → Int → Int} {R : Nat → Int → Option Nat} {z k n a o b Ls : Nat} {xs : Nat → Int32} {i s : Int} {nm : MethodName} (hC : axC G f (YL nm) RL 11 600000 7302250) (hX : va_X b Ls xs f.2.2.2.1 G.2.2.2.2.2) (hb : b < G.2.2.2.1) (hLs : Ls ≤ 3072) (hi0 : 0 ≤ i) (hi1 : i + 6 ≤ Ls) (LP : axLP G T N I R z a o s) (hs : s ≤ 2000000) (hk : 48 ≤ k) (hn : 528 ≤ n) (kk : ∀ (T2 : Nat → Nat) (N2 : Nat → Int) (I2 : Nat → Int → Int) (R2 : Nat → Int → Option Nat) (z2 k2 n2 : Nat), k ≤ k2 + 48 → n ≤ n2 + 528 → axLP G T2 N2 I2 R2 z2 a o (s + 25) → axX G f 600000 7302250 Q 1271 [vR b, vR a, vR o, vI i] [] T2 N2 I2 R2 z2 k2 n2) : axX G f 600000 7302250 Q 367 [vR b, vR a, vR o, vI i] [] T N I R z k n := by
  obtain ⟨M, σ, A, w, h, hi, e⟩ := LP
  obtain ⟨v, hv⟩ := pr_fork M h hi e hs (i32_r (xs (i + 1).toNat)) (i32_r (xs (i + 2).toNat))
  unfold PRC at hv
  have ta : T a = 11 := fx_ta (rl_fx h)
  refine x_aload_n (pc := 367) hC dL_law_367 rfl ?_
  refine x_aload_n (pc := 368) hC dL_law_368 rfl ?_
  refine x_iload_n (pc := 369) hC dL_law_369 rfl ?_
  refine x_iconst (pc := 370) hC dL_law_370 ?_
  refine x_iadd (pc := 371) hC dL_law_371 ?_
  refine x_sald (pc := 372) hC hX hb dL_law_372 (by omega) (by omega) hLs ?_
  refine x_aload_n (pc := 373) hC dL_law_373 rfl ?_
  refine x_iload_n (pc := 374) hC dL_law_374 rfl ?_
  refine x_iconst (pc := 375) hC dL_law_375 ?_
  refine x_iadd (pc := 376) hC dL_law_376 ?_
  refine x_sald (pc := 377) hC hX hb dL_law_377 (by omega) (by omega) hLs ?_
  refine x_callV (pc := 378) hC cv_L_36 dL_law_378 hv ta rfl (by decide) (by omega) (by omega) rfl rfl (Nat.le_of_ble_eq_true rfl) (fun r1 T1 N1 I1 R1 z1 q => ?_)
  obtain ⟨rfl, to, hm⟩ := q
  dsimp only [Option.toList, List.cons_append, List.nil_append]
  refine x_aload_n (pc := 381) hC dL_law_381 rfl ?_
  refine x_aload_n (pc := 382) hC dL_law_382 rfl ?_
  refine x_iload_n (pc := 383) hC dL_law_383 rfl ?_
  refine x_iconst (pc := 384) hC dL_law_384 ?_
  refine x_iadd (pc := 385) hC dL_law_385 ?_
  refine x_sald (pc := 386) hC hX hb dL_law_386 (by omega) (by omega) hLs ?_
  refine x_aload_n (pc := 387) hC dL_law_387 rfl ?_
  refine x_iload_n (pc := 388) hC dL_law_388 rfl ?_
  refine x_iconst (pc := 389) hC dL_law_389 ?_
  refine x_iadd (pc := 390) hC dL_law_390 ?_
  refine x_sald (pc := 391) hC hX hb dL_law_391 (by omega) (by omega) hLs ?_
  refine x_callV (pc := 392) hC cv_L_39 dL_law_392 hm to rfl (by decide) (Nat.zero_le _) (Nat.zero_le _) rfl rfl (Nat.le_of_ble_eq_true rfl) (fun r2 T2 N2 I2 R2 z2 q => ?_)
  obtain ⟨rfl, hLP⟩ := q
  dsimp only [Option.toList, List.cons_append, List.nil_append]
  refine x_icmp_same (pc := 395) hC 1271 dL_law_395 (by decide) rfl ?_
  exact kk T2 N2 I2 R2 z2 _ _ (by omega) (by omega) hLP

set_option maxHeartbeats 4000000 in
set_option maxRecDepth 100000 in
theorem lw_c6 {G : ax_G} {f : ax_F} {Q : ax_P} {T : Nat → Nat} {N : Nat → Int} {I : Nat → Int → Int} {R : Nat → Int → Option Nat} {z k n a o b Ls : Nat} {xs : Nat → Int32} {i s : Int} {nm : MethodName} (hC : axC G f (YL nm) RL 11 600000 7302250) (hX : va_X b Ls xs f.2.2.2.1 G.2.2.2.2.2) (hb : b < G.2.2.2.1) (hLs : Ls ≤ 3072) (hi0 : 0 ≤ i) (hi1 : i + 6 ≤ Ls) (LP : axLP G T N I R z a o s) (hs : s ≤ 2000000) (hk : 48 ≤ k) (hn : 528 ≤ n) (kk : ∀ (T2 : Nat → Nat) (N2 : Nat → Int) (I2 : Nat → Int → Int) (R2 : Nat → Int → Option Nat) (z2 k2 n2 : Nat), k ≤ k2 + 48 → n ≤ n2 + 528 → axLP G T2 N2 I2 R2 z2 a o (s + 25) → axX G f 600000 7302250 Q 1271 [vR b, vR a, vR o, vI i] [] T2 N2 I2 R2 z2 k2 n2) : axX G f 600000 7302250 Q 400 [vR b, vR a, vR o, vI i] [] T N I R z k n := by
  obtain ⟨M, σ, A, w, h, hi, e⟩ := LP
  obtain ⟨v, hv⟩ := pr_ahead M h hi e hs (i32_r (xs (i + 1).toNat)) (i32_r (xs (i + 2).toNat))
  unfold PRC at hv
  have ta : T a = 11 := fx_ta (rl_fx h)
  refine x_aload_n (pc := 400) hC dL_law_400 rfl ?_
  refine x_aload_n (pc := 401) hC dL_law_401 rfl ?_
  refine x_iload_n (pc := 402) hC dL_law_402 rfl ?_
  refine x_iconst (pc := 403) hC dL_law_403 ?_
  refine x_iadd (pc := 404) hC dL_law_404 ?_
  refine x_sald (pc := 405) hC hX hb dL_law_405 (by omega) (by omega) hLs ?_
  refine x_aload_n (pc := 406) hC dL_law_406 rfl ?_
  refine x_iload_n (pc := 407) hC dL_law_407 rfl ?_
  refine x_iconst (pc := 408) hC dL_law_408 ?_
  refine x_iadd (pc := 409) hC dL_law_409 ?_
  refine x_sald (pc := 410) hC hX hb dL_law_410 (by omega) (by omega) hLs ?_
  refine x_callV (pc := 411) hC cv_L_40 dL_law_411 hv ta rfl (by decide) (by omega) (by omega) rfl rfl (Nat.le_of_ble_eq_true rfl) (fun r1 T1 N1 I1 R1 z1 q => ?_)
  obtain ⟨rfl, to, hm⟩ := q
  dsimp only [Option.toList, List.cons_append, List.nil_append]
  refine x_aload_n (pc := 414) hC dL_law_414 rfl ?_
  refine x_aload_n (pc := 415) hC dL_law_415 rfl ?_
  refine x_iload_n (pc := 416) hC dL_law_416 rfl ?_
  refine x_iconst (pc := 417) hC dL_law_417 ?_
  refine x_iadd (pc := 418) hC dL_law_418 ?_
  refine x_sald (pc := 419) hC hX hb dL_law_419 (by omega) (by omega) hLs ?_
  refine x_aload_n (pc := 420) hC dL_law_420 rfl ?_
  refine x_iload_n (pc := 421) hC dL_law_421 rfl ?_
  refine x_iconst (pc := 422) hC dL_law_422 ?_
  refine x_iadd (pc := 423) hC dL_law_423 ?_
  refine x_sald (pc := 424) hC hX hb dL_law_424 (by omega) (by omega) hLs ?_
  refine x_callV (pc := 425) hC cv_L_43 dL_law_425 hm to rfl (by decide) (Nat.zero_le _) (Nat.zero_le _) rfl rfl (Nat.le_of_ble_eq_true rfl) (fun r2 T2 N2 I2 R2 z2 q => ?_)
  obtain ⟨rfl, hLP⟩ := q
  dsimp only [Option.toList, List.cons_append, List.nil_append]
  refine x_icmp_same (pc := 428) hC 1271 dL_law_428 (by decide) rfl ?_
  exact kk T2 N2 I2 R2 z2 _ _ (by omega) (by omega) hLP

set_option maxHeartbeats 4000000 in
set_option maxRecDepth 100000 in
theorem lw_c7 {G : ax_G} {f : ax_F} {Q : ax_P} {T : Nat → Nat} {N : Nat → Int} {I : Nat → Int → Int} {R : Nat → Int → Option Nat} {z k n a o b Ls : Nat} {xs : Nat → Int32} {i s : Int} {nm : MethodName} (hC : axC G f (YL nm) RL 11 600000 7302250) (hX : va_X b Ls xs f.2.2.2.1 G.2.2.2.2.2) (hb : b < G.2.2.2.1) (hLs : Ls ≤ 3072) (hi0 : 0 ≤ i) (hi1 : i + 6 ≤ Ls) (LP : axLP G T N I R z a o s) (hs : s ≤ 2000000) (hk : 48 ≤ k) (hn : 528 ≤ n) (kk : ∀ (T2 : Nat → Nat) (N2 : Nat → Int) (I2 : Nat → Int → Int) (R2 : Nat → Int → Option Nat) (z2 k2 n2 : Nat), k ≤ k2 + 48 → n ≤ n2 + 528 → axLP G T2 N2 I2 R2 z2 a o (s + 25) → axX G f 600000 7302250 Q 1271 [vR b, vR a, vR o, vI i] [] T2 N2 I2 R2 z2 k2 n2) : axX G f 600000 7302250 Q 433 [vR b, vR a, vR o, vI i] [] T N I R z k n := by
  obtain ⟨M, σ, A, w, h, hi, e⟩ := LP
  obtain ⟨v, hv⟩ := pr_swaps M h hi e hs (i32_r (xs (i + 1).toNat))
  unfold PRC at hv
  have ta : T a = 11 := fx_ta (rl_fx h)
  refine x_aload_n (pc := 433) hC dL_law_433 rfl ?_
  refine x_aload_n (pc := 434) hC dL_law_434 rfl ?_
  refine x_iload_n (pc := 435) hC dL_law_435 rfl ?_
  refine x_iconst (pc := 436) hC dL_law_436 ?_
  refine x_iadd (pc := 437) hC dL_law_437 ?_
  refine x_sald (pc := 438) hC hX hb dL_law_438 (by omega) (by omega) hLs ?_
  refine x_callV (pc := 439) hC cv_L_44 dL_law_439 hv ta rfl (by decide) (by omega) (by omega) rfl rfl (Nat.le_of_ble_eq_true rfl) (fun r1 T1 N1 I1 R1 z1 q => ?_)
  obtain ⟨rfl, to, hm⟩ := q
  dsimp only [Option.toList, List.cons_append, List.nil_append]
  refine x_aload_n (pc := 442) hC dL_law_442 rfl ?_
  refine x_aload_n (pc := 443) hC dL_law_443 rfl ?_
  refine x_iload_n (pc := 444) hC dL_law_444 rfl ?_
  refine x_iconst (pc := 445) hC dL_law_445 ?_
  refine x_iadd (pc := 446) hC dL_law_446 ?_
  refine x_sald (pc := 447) hC hX hb dL_law_447 (by omega) (by omega) hLs ?_
  refine x_callV (pc := 448) hC cv_L_47 dL_law_448 hm to rfl (by decide) (Nat.zero_le _) (Nat.zero_le _) rfl rfl (Nat.le_of_ble_eq_true rfl) (fun r2 T2 N2 I2 R2 z2 q => ?_)
  obtain ⟨rfl, hLP⟩ := q
  dsimp only [Option.toList, List.cons_append, List.nil_append]
  refine x_icmp_same (pc := 451) hC 1271 dL_law_451 (by decide) rfl ?_
  exact kk T2 N2 I2 R2 z2 _ _ (by omega) (by omega) hLP

set_option maxHeartbeats 4000000 in
set_option maxRecDepth 100000 in
theorem lw_c8 {G : ax_G} {f : ax_F} {Q : ax_P} {T : Nat → Nat} {N : Nat → Int} {I : Nat → Int → Int} {R : Nat → Int → Option Nat} {z k n a o b Ls : Nat} {xs : Nat → Int32} {i s : Int} {nm : MethodName} (hC : axC G f (YL nm) RL 11 600000 7302250) (hX : va_X b Ls xs f.2.2.2.1 G.2.2.2.2.2) (hb : b < G.2.2.2.1) (hLs : Ls ≤ 3072) (hi0 : 0 ≤ i) (hi1 : i + 6 ≤ Ls) (LP : axLP G T N I R z a o s) (hs : s ≤ 2000000) (hk : 48 ≤ k) (hn : 528 ≤ n) (kk : ∀ (T2 : Nat → Nat) (N2 : Nat → Int) (I2 : Nat → Int → Int) (R2 : Nat → Int → Option Nat) (z2 k2 n2 : Nat), k ≤ k2 + 48 → n ≤ n2 + 528 → axLP G T2 N2 I2 R2 z2 a o (s + 25) → axX G f 600000 7302250 Q 1271 [vR b, vR a, vR o, vI i] [] T2 N2 I2 R2 z2 k2 n2) : axX G f 600000 7302250 Q 456 [vR b, vR a, vR o, vI i] [] T N I R z k n := by
  obtain ⟨M, σ, A, w, h, hi, e⟩ := LP
  obtain ⟨v, hv⟩ := pr_tip M h hi e hs (i32_r (xs (i + 1).toNat))
  unfold PRC at hv
  have ta : T a = 11 := fx_ta (rl_fx h)
  refine x_aload_n (pc := 456) hC dL_law_456 rfl ?_
  refine x_aload_n (pc := 457) hC dL_law_457 rfl ?_
  refine x_iload_n (pc := 458) hC dL_law_458 rfl ?_
  refine x_iconst (pc := 459) hC dL_law_459 ?_
  refine x_iadd (pc := 460) hC dL_law_460 ?_
  refine x_sald (pc := 461) hC hX hb dL_law_461 (by omega) (by omega) hLs ?_
  refine x_callV (pc := 462) hC cv_L_48 dL_law_462 hv ta rfl (by decide) (by omega) (by omega) rfl rfl (Nat.le_of_ble_eq_true rfl) (fun r1 T1 N1 I1 R1 z1 q => ?_)
  obtain ⟨rfl, to, hm⟩ := q
  dsimp only [Option.toList, List.cons_append, List.nil_append]
  refine x_aload_n (pc := 465) hC dL_law_465 rfl ?_
  refine x_aload_n (pc := 466) hC dL_law_466 rfl ?_
  refine x_iload_n (pc := 467) hC dL_law_467 rfl ?_
  refine x_iconst (pc := 468) hC dL_law_468 ?_
  refine x_iadd (pc := 469) hC dL_law_469 ?_
  refine x_sald (pc := 470) hC hX hb dL_law_470 (by omega) (by omega) hLs ?_
  refine x_callV (pc := 471) hC cv_L_51 dL_law_471 hm to rfl (by decide) (Nat.zero_le _) (Nat.zero_le _) rfl rfl (Nat.le_of_ble_eq_true rfl) (fun r2 T2 N2 I2 R2 z2 q => ?_)
  obtain ⟨rfl, hLP⟩ := q
  dsimp only [Option.toList, List.cons_append, List.nil_append]
  refine x_icmp_same (pc := 474) hC 1271 dL_law_474 (by decide) rfl ?_
  exact kk T2 N2 I2 R2 z2 _ _ (by omega) (by omega) hLP

set_option maxHeartbeats 4000000 in
set_option maxRecDepth 100000 in
theorem lw_c9 {G : ax_G} {f : ax_F} {Q : ax_P} {T : Nat → Nat} {N : Nat → Int} {I : Nat → Int → Int} {R : Nat → Int → Option Nat} {z k n a o b Ls : Nat} {xs : Nat → Int32} {i s : Int} {nm : MethodName} (hC : axC G f (YL nm) RL 11 600000 7302250) (hX : va_X b Ls xs f.2.2.2.1 G.2.2.2.2.2) (hb : b < G.2.2.2.1) (hLs : Ls ≤ 3072) (hi0 : 0 ≤ i) (hi1 : i + 6 ≤ Ls) (LP : axLP G T N I R z a o s) (hs : s ≤ 2000000) (hk : 48 ≤ k) (hn : 528 ≤ n) (kk : ∀ (T2 : Nat → Nat) (N2 : Nat → Int) (I2 : Nat → Int → Int) (R2 : Nat → Int → Option Nat) (z2 k2 n2 : Nat), k ≤ k2 + 48 → n ≤ n2 + 528 → axLP G T2 N2 I2 R2 z2 a o (s + 25) → axX G f 600000 7302250 Q 1271 [vR b, vR a, vR o, vI i] [] T2 N2 I2 R2 z2 k2 n2) : axX G f 600000 7302250 Q 479 [vR b, vR a, vR o, vI i] [] T N I R z k n := by
  obtain ⟨M, σ, A, w, h, hi, e⟩ := LP
  obtain ⟨v, hv⟩ := pr_point M h hi e hs (i32_r (xs (i + 1).toNat)) (i32_r (xs (i + 2).toNat))
  unfold PRC at hv
  have ta : T a = 11 := fx_ta (rl_fx h)
  refine x_aload_n (pc := 479) hC dL_law_479 rfl ?_
  refine x_aload_n (pc := 480) hC dL_law_480 rfl ?_
  refine x_iload_n (pc := 481) hC dL_law_481 rfl ?_
  refine x_iconst (pc := 482) hC dL_law_482 ?_
  refine x_iadd (pc := 483) hC dL_law_483 ?_
  refine x_sald (pc := 484) hC hX hb dL_law_484 (by omega) (by omega) hLs ?_
  refine x_aload_n (pc := 485) hC dL_law_485 rfl ?_
  refine x_iload_n (pc := 486) hC dL_law_486 rfl ?_
  refine x_iconst (pc := 487) hC dL_law_487 ?_
  refine x_iadd (pc := 488) hC dL_law_488 ?_
  refine x_sald (pc := 489) hC hX hb dL_law_489 (by omega) (by omega) hLs ?_
  refine x_callV (pc := 490) hC cv_L_52 dL_law_490 hv ta rfl (by decide) (by omega) (by omega) rfl rfl (Nat.le_of_ble_eq_true rfl) (fun r1 T1 N1 I1 R1 z1 q => ?_)
  obtain ⟨rfl, to, hm⟩ := q
  dsimp only [Option.toList, List.cons_append, List.nil_append]
  refine x_aload_n (pc := 493) hC dL_law_493 rfl ?_
  refine x_aload_n (pc := 494) hC dL_law_494 rfl ?_
  refine x_iload_n (pc := 495) hC dL_law_495 rfl ?_
  refine x_iconst (pc := 496) hC dL_law_496 ?_
  refine x_iadd (pc := 497) hC dL_law_497 ?_
  refine x_sald (pc := 498) hC hX hb dL_law_498 (by omega) (by omega) hLs ?_
  refine x_aload_n (pc := 499) hC dL_law_499 rfl ?_
  refine x_iload_n (pc := 500) hC dL_law_500 rfl ?_
  refine x_iconst (pc := 501) hC dL_law_501 ?_
  refine x_iadd (pc := 502) hC dL_law_502 ?_
  refine x_sald (pc := 503) hC hX hb dL_law_503 (by omega) (by omega) hLs ?_
  refine x_callV (pc := 504) hC cv_L_55 dL_law_504 hm to rfl (by decide) (Nat.zero_le _) (Nat.zero_le _) rfl rfl (Nat.le_of_ble_eq_true rfl) (fun r2 T2 N2 I2 R2 z2 q => ?_)
  obtain ⟨rfl, hLP⟩ := q
  dsimp only [Option.toList, List.cons_append, List.nil_append]
  refine x_icmp_same (pc := 507) hC 1271 dL_law_507 (by decide) rfl ?_
  exact kk T2 N2 I2 R2 z2 _ _ (by omega) (by omega) hLP

set_option maxHeartbeats 4000000 in
set_option maxRecDepth 100000 in
theorem lw_c10 {G : ax_G} {f : ax_F} {Q : ax_P} {T : Nat → Nat} {N : Nat → Int} {I : Nat → Int → Int} {R : Nat → Int → Option Nat} {z k n a o b Ls : Nat} {xs : Nat → Int32} {i s : Int} {nm : MethodName} (hC : axC G f (YL nm) RL 11 600000 7302250) (hX : va_X b Ls xs f.2.2.2.1 G.2.2.2.2.2) (hb : b < G.2.2.2.1) (hLs : Ls ≤ 3072) (hi0 : 0 ≤ i) (hi1 : i + 6 ≤ Ls) (LP : axLP G T N I R z a o s) (hs : s ≤ 2000000) (hk : 48 ≤ k) (hn : 528 ≤ n) (kk : ∀ (T2 : Nat → Nat) (N2 : Nat → Int) (I2 : Nat → Int → Int) (R2 : Nat → Int → Option Nat) (z2 k2 n2 : Nat), k ≤ k2 + 48 → n ≤ n2 + 528 → axLP G T2 N2 I2 R2 z2 a o (s + 25) → axX G f 600000 7302250 Q 1271 [vR b, vR a, vR o, vI i] [] T2 N2 I2 R2 z2 k2 n2) : axX G f 600000 7302250 Q 512 [vR b, vR a, vR o, vI i] [] T N I R z k n := by
  obtain ⟨M, σ, A, w, h, hi, e⟩ := LP
  obtain ⟨v, hv⟩ := pr_anew M h hi e hs 
  unfold PRC at hv
  have ta : T a = 11 := fx_ta (rl_fx h)
  refine x_aload_n (pc := 512) hC dL_law_512 rfl ?_
  refine x_callV (pc := 513) hC cv_L_56 dL_law_513 hv ta rfl (by decide) (by omega) (by omega) rfl rfl (Nat.le_of_ble_eq_true rfl) (fun r1 T1 N1 I1 R1 z1 q => ?_)
  obtain ⟨rfl, to, hm⟩ := q
  dsimp only [Option.toList, List.cons_append, List.nil_append]
  refine x_aload_n (pc := 516) hC dL_law_516 rfl ?_
  refine x_callV (pc := 517) hC cv_L_60 dL_law_517 hm to rfl (by decide) (Nat.zero_le _) (Nat.zero_le _) rfl rfl (Nat.le_of_ble_eq_true rfl) (fun r2 T2 N2 I2 R2 z2 q => ?_)
  obtain ⟨rfl, hLP⟩ := q
  dsimp only [Option.toList, List.cons_append, List.nil_append]
  refine x_icmp_same (pc := 520) hC 1271 dL_law_520 (by decide) rfl ?_
  exact kk T2 N2 I2 R2 z2 _ _ (by omega) (by omega) hLP

set_option maxHeartbeats 4000000 in
set_option maxRecDepth 100000 in
theorem lw_c11 {G : ax_G} {f : ax_F} {Q : ax_P} {T : Nat → Nat} {N : Nat → Int} {I : Nat → Int → Int} {R : Nat → Int → Option Nat} {z k n a o b Ls : Nat} {xs : Nat → Int32} {i s : Int} {nm : MethodName} (hC : axC G f (YL nm) RL 11 600000 7302250) (hX : va_X b Ls xs f.2.2.2.1 G.2.2.2.2.2) (hb : b < G.2.2.2.1) (hLs : Ls ≤ 3072) (hi0 : 0 ≤ i) (hi1 : i + 6 ≤ Ls) (LP : axLP G T N I R z a o s) (hs : s ≤ 2000000) (hk : 48 ≤ k) (hn : 528 ≤ n) (kk : ∀ (T2 : Nat → Nat) (N2 : Nat → Int) (I2 : Nat → Int → Int) (R2 : Nat → Int → Option Nat) (z2 k2 n2 : Nat), k ≤ k2 + 48 → n ≤ n2 + 528 → axLP G T2 N2 I2 R2 z2 a o (s + 25) → axX G f 600000 7302250 Q 1271 [vR b, vR a, vR o, vI i] [] T2 N2 I2 R2 z2 k2 n2) : axX G f 600000 7302250 Q 525 [vR b, vR a, vR o, vI i] [] T N I R z k n := by
  obtain ⟨M, σ, A, w, h, hi, e⟩ := LP
  obtain ⟨v, hv⟩ := pr_merge M h hi e hs (i32_r (xs (i + 1).toNat)) (i32_r (xs (i + 2).toNat)) (i32_r (xs (i + 3).toNat)) (i32_r (xs (i + 4).toNat))
  unfold PRC at hv
  have ta : T a = 11 := fx_ta (rl_fx h)
  refine x_aload_n (pc := 525) hC dL_law_525 rfl ?_
  refine x_aload_n (pc := 526) hC dL_law_526 rfl ?_
  refine x_iload_n (pc := 527) hC dL_law_527 rfl ?_
  refine x_iconst (pc := 528) hC dL_law_528 ?_
  refine x_iadd (pc := 529) hC dL_law_529 ?_
  refine x_sald (pc := 530) hC hX hb dL_law_530 (by omega) (by omega) hLs ?_
  refine x_aload_n (pc := 531) hC dL_law_531 rfl ?_
  refine x_iload_n (pc := 532) hC dL_law_532 rfl ?_
  refine x_iconst (pc := 533) hC dL_law_533 ?_
  refine x_iadd (pc := 534) hC dL_law_534 ?_
  refine x_sald (pc := 535) hC hX hb dL_law_535 (by omega) (by omega) hLs ?_
  refine x_aload_n (pc := 536) hC dL_law_536 rfl ?_
  refine x_iload_n (pc := 537) hC dL_law_537 rfl ?_
  refine x_iconst (pc := 538) hC dL_law_538 ?_
  refine x_iadd (pc := 539) hC dL_law_539 ?_
  refine x_sald (pc := 540) hC hX hb dL_law_540 (by omega) (by omega) hLs ?_
  refine x_aload_n (pc := 541) hC dL_law_541 rfl ?_
  refine x_iload_n (pc := 542) hC dL_law_542 rfl ?_
  refine x_iconst (pc := 543) hC dL_law_543 ?_
  refine x_iadd (pc := 544) hC dL_law_544 ?_
  refine x_sald (pc := 545) hC hX hb dL_law_545 (by omega) (by omega) hLs ?_
  refine x_callV (pc := 546) hC cv_L_61 dL_law_546 hv ta rfl (by decide) (by omega) (by omega) rfl rfl (Nat.le_of_ble_eq_true rfl) (fun r1 T1 N1 I1 R1 z1 q => ?_)
  obtain ⟨rfl, to, hm⟩ := q
  dsimp only [Option.toList, List.cons_append, List.nil_append]
  refine x_aload_n (pc := 549) hC dL_law_549 rfl ?_
  refine x_aload_n (pc := 550) hC dL_law_550 rfl ?_
  refine x_iload_n (pc := 551) hC dL_law_551 rfl ?_
  refine x_iconst (pc := 552) hC dL_law_552 ?_
  refine x_iadd (pc := 553) hC dL_law_553 ?_
  refine x_sald (pc := 554) hC hX hb dL_law_554 (by omega) (by omega) hLs ?_
  refine x_aload_n (pc := 555) hC dL_law_555 rfl ?_
  refine x_iload_n (pc := 556) hC dL_law_556 rfl ?_
  refine x_iconst (pc := 557) hC dL_law_557 ?_
  refine x_iadd (pc := 558) hC dL_law_558 ?_
  refine x_sald (pc := 559) hC hX hb dL_law_559 (by omega) (by omega) hLs ?_
  refine x_aload_n (pc := 560) hC dL_law_560 rfl ?_
  refine x_iload_n (pc := 561) hC dL_law_561 rfl ?_
  refine x_iconst (pc := 562) hC dL_law_562 ?_
  refine x_iadd (pc := 563) hC dL_law_563 ?_
  refine x_sald (pc := 564) hC hX hb dL_law_564 (by omega) (by omega) hLs ?_
  refine x_aload_n (pc := 565) hC dL_law_565 rfl ?_
  refine x_iload_n (pc := 566) hC dL_law_566 rfl ?_
  refine x_iconst (pc := 567) hC dL_law_567 ?_
  refine x_iadd (pc := 568) hC dL_law_568 ?_
  refine x_sald (pc := 569) hC hX hb dL_law_569 (by omega) (by omega) hLs ?_
  refine x_callV (pc := 570) hC cv_L_65 dL_law_570 hm to rfl (by decide) (Nat.zero_le _) (Nat.zero_le _) rfl rfl (Nat.le_of_ble_eq_true rfl) (fun r2 T2 N2 I2 R2 z2 q => ?_)
  obtain ⟨rfl, hLP⟩ := q
  dsimp only [Option.toList, List.cons_append, List.nil_append]
  refine x_icmp_same (pc := 573) hC 1271 dL_law_573 (by decide) rfl ?_
  exact kk T2 N2 I2 R2 z2 _ _ (by omega) (by omega) hLP

set_option maxHeartbeats 4000000 in
set_option maxRecDepth 100000 in
theorem lw_c12 {G : ax_G} {f : ax_F} {Q : ax_P} {T : Nat → Nat} {N : Nat → Int} {I : Nat → Int → Int} {R : Nat → Int → Option Nat} {z k n a o b Ls : Nat} {xs : Nat → Int32} {i s : Int} {nm : MethodName} (hC : axC G f (YL nm) RL 11 600000 7302250) (hX : va_X b Ls xs f.2.2.2.1 G.2.2.2.2.2) (hb : b < G.2.2.2.1) (hLs : Ls ≤ 3072) (hi0 : 0 ≤ i) (hi1 : i + 6 ≤ Ls) (LP : axLP G T N I R z a o s) (hs : s ≤ 2000000) (hk : 48 ≤ k) (hn : 528 ≤ n) (kk : ∀ (T2 : Nat → Nat) (N2 : Nat → Int) (I2 : Nat → Int → Int) (R2 : Nat → Int → Option Nat) (z2 k2 n2 : Nat), k ≤ k2 + 48 → n ≤ n2 + 528 → axLP G T2 N2 I2 R2 z2 a o (s + 25) → axX G f 600000 7302250 Q 1271 [vR b, vR a, vR o, vI i] [] T2 N2 I2 R2 z2 k2 n2) : axX G f 600000 7302250 Q 578 [vR b, vR a, vR o, vI i] [] T N I R z k n := by
  obtain ⟨M, σ, A, w, h, hi, e⟩ := LP
  obtain ⟨v, hv⟩ := pr_resolution M h hi e hs (i32_r (xs (i + 1).toNat)) (i32_r (xs (i + 2).toNat))
  unfold PRC at hv
  have ta : T a = 11 := fx_ta (rl_fx h)
  refine x_aload_n (pc := 578) hC dL_law_578 rfl ?_
  refine x_aload_n (pc := 579) hC dL_law_579 rfl ?_
  refine x_iload_n (pc := 580) hC dL_law_580 rfl ?_
  refine x_iconst (pc := 581) hC dL_law_581 ?_
  refine x_iadd (pc := 582) hC dL_law_582 ?_
  refine x_sald (pc := 583) hC hX hb dL_law_583 (by omega) (by omega) hLs ?_
  refine x_aload_n (pc := 584) hC dL_law_584 rfl ?_
  refine x_iload_n (pc := 585) hC dL_law_585 rfl ?_
  refine x_iconst (pc := 586) hC dL_law_586 ?_
  refine x_iadd (pc := 587) hC dL_law_587 ?_
  refine x_sald (pc := 588) hC hX hb dL_law_588 (by omega) (by omega) hLs ?_
  refine x_callV (pc := 589) hC cv_L_66 dL_law_589 hv ta rfl (by decide) (by omega) (by omega) rfl rfl (Nat.le_of_ble_eq_true rfl) (fun r1 T1 N1 I1 R1 z1 q => ?_)
  obtain ⟨rfl, to, hm⟩ := q
  dsimp only [Option.toList, List.cons_append, List.nil_append]
  refine x_aload_n (pc := 592) hC dL_law_592 rfl ?_
  refine x_aload_n (pc := 593) hC dL_law_593 rfl ?_
  refine x_iload_n (pc := 594) hC dL_law_594 rfl ?_
  refine x_iconst (pc := 595) hC dL_law_595 ?_
  refine x_iadd (pc := 596) hC dL_law_596 ?_
  refine x_sald (pc := 597) hC hX hb dL_law_597 (by omega) (by omega) hLs ?_
  refine x_aload_n (pc := 598) hC dL_law_598 rfl ?_
  refine x_iload_n (pc := 599) hC dL_law_599 rfl ?_
  refine x_iconst (pc := 600) hC dL_law_600 ?_
  refine x_iadd (pc := 601) hC dL_law_601 ?_
  refine x_sald (pc := 602) hC hX hb dL_law_602 (by omega) (by omega) hLs ?_
  refine x_callV (pc := 603) hC cv_L_69 dL_law_603 hm to rfl (by decide) (Nat.zero_le _) (Nat.zero_le _) rfl rfl (Nat.le_of_ble_eq_true rfl) (fun r2 T2 N2 I2 R2 z2 q => ?_)
  obtain ⟨rfl, hLP⟩ := q
  dsimp only [Option.toList, List.cons_append, List.nil_append]
  refine x_icmp_same (pc := 606) hC 1271 dL_law_606 (by decide) rfl ?_
  exact kk T2 N2 I2 R2 z2 _ _ (by omega) (by omega) hLP

set_option maxHeartbeats 4000000 in
set_option maxRecDepth 100000 in
theorem lw_c13 {G : ax_G} {f : ax_F} {Q : ax_P} {T : Nat → Nat} {N : Nat → Int} {I : Nat → Int → Int} {R : Nat → Int → Option Nat} {z k n a o b Ls : Nat} {xs : Nat → Int32} {i s : Int} {nm : MethodName} (hC : axC G f (YL nm) RL 11 600000 7302250) (hX : va_X b Ls xs f.2.2.2.1 G.2.2.2.2.2) (hb : b < G.2.2.2.1) (hLs : Ls ≤ 3072) (hi0 : 0 ≤ i) (hi1 : i + 6 ≤ Ls) (LP : axLP G T N I R z a o s) (hs : s ≤ 2000000) (hk : 48 ≤ k) (hn : 528 ≤ n) (kk : ∀ (T2 : Nat → Nat) (N2 : Nat → Int) (I2 : Nat → Int → Int) (R2 : Nat → Int → Option Nat) (z2 k2 n2 : Nat), k ≤ k2 + 48 → n ≤ n2 + 528 → axLP G T2 N2 I2 R2 z2 a o (s + 25) → axX G f 600000 7302250 Q 1271 [vR b, vR a, vR o, vI i] [] T2 N2 I2 R2 z2 k2 n2) : axX G f 600000 7302250 Q 611 [vR b, vR a, vR o, vI i] [] T N I R z k n := by
  obtain ⟨M, σ, A, w, h, hi, e⟩ := LP
  obtain ⟨v, hv⟩ := pr_forget M h hi e hs (i32_r (xs (i + 1).toNat))
  unfold PRC at hv
  have ta : T a = 11 := fx_ta (rl_fx h)
  refine x_aload_n (pc := 611) hC dL_law_611 rfl ?_
  refine x_aload_n (pc := 612) hC dL_law_612 rfl ?_
  refine x_iload_n (pc := 613) hC dL_law_613 rfl ?_
  refine x_iconst (pc := 614) hC dL_law_614 ?_
  refine x_iadd (pc := 615) hC dL_law_615 ?_
  refine x_sald (pc := 616) hC hX hb dL_law_616 (by omega) (by omega) hLs ?_
  refine x_callV (pc := 617) hC cv_L_70 dL_law_617 hv ta rfl (by decide) (by omega) (by omega) rfl rfl (Nat.le_of_ble_eq_true rfl) (fun r1 T1 N1 I1 R1 z1 q => ?_)
  obtain ⟨rfl, to, hm⟩ := q
  dsimp only [Option.toList, List.cons_append, List.nil_append]
  refine x_aload_n (pc := 620) hC dL_law_620 rfl ?_
  refine x_aload_n (pc := 621) hC dL_law_621 rfl ?_
  refine x_iload_n (pc := 622) hC dL_law_622 rfl ?_
  refine x_iconst (pc := 623) hC dL_law_623 ?_
  refine x_iadd (pc := 624) hC dL_law_624 ?_
  refine x_sald (pc := 625) hC hX hb dL_law_625 (by omega) (by omega) hLs ?_
  refine x_callV (pc := 626) hC cv_L_73 dL_law_626 hm to rfl (by decide) (Nat.zero_le _) (Nat.zero_le _) rfl rfl (Nat.le_of_ble_eq_true rfl) (fun r2 T2 N2 I2 R2 z2 q => ?_)
  obtain ⟨rfl, hLP⟩ := q
  dsimp only [Option.toList, List.cons_append, List.nil_append]
  refine x_icmp_same (pc := 629) hC 1271 dL_law_629 (by decide) rfl ?_
  exact kk T2 N2 I2 R2 z2 _ _ (by omega) (by omega) hLP

set_option maxHeartbeats 4000000 in
set_option maxRecDepth 100000 in
theorem lw_c14 {G : ax_G} {f : ax_F} {Q : ax_P} {T : Nat → Nat} {N : Nat → Int} {I : Nat → Int → Int} {R : Nat → Int → Option Nat} {z k n a o b Ls : Nat} {xs : Nat → Int32} {i s : Int} {nm : MethodName} (hC : axC G f (YL nm) RL 11 600000 7302250) (hX : va_X b Ls xs f.2.2.2.1 G.2.2.2.2.2) (hb : b < G.2.2.2.1) (hLs : Ls ≤ 3072) (hi0 : 0 ≤ i) (hi1 : i + 6 ≤ Ls) (LP : axLP G T N I R z a o s) (hs : s ≤ 2000000) (hk : 48 ≤ k) (hn : 528 ≤ n) (kk : ∀ (T2 : Nat → Nat) (N2 : Nat → Int) (I2 : Nat → Int → Int) (R2 : Nat → Int → Option Nat) (z2 k2 n2 : Nat), k ≤ k2 + 48 → n ≤ n2 + 528 → axLP G T2 N2 I2 R2 z2 a o (s + 25) → axX G f 600000 7302250 Q 1271 [vR b, vR a, vR o, vI i] [] T2 N2 I2 R2 z2 k2 n2) : axX G f 600000 7302250 Q 634 [vR b, vR a, vR o, vI i] [] T N I R z k n := by
  obtain ⟨M, σ, A, w, h, hi, e⟩ := LP
  obtain ⟨v, hv⟩ := pr_replay M h hi e hs (i32_r (xs (i + 1).toNat)) (i32_r (xs (i + 2).toNat))
  unfold PRC at hv
  have ta : T a = 11 := fx_ta (rl_fx h)
  refine x_aload_n (pc := 634) hC dL_law_634 rfl ?_
  refine x_aload_n (pc := 635) hC dL_law_635 rfl ?_
  refine x_iload_n (pc := 636) hC dL_law_636 rfl ?_
  refine x_iconst (pc := 637) hC dL_law_637 ?_
  refine x_iadd (pc := 638) hC dL_law_638 ?_
  refine x_sald (pc := 639) hC hX hb dL_law_639 (by omega) (by omega) hLs ?_
  refine x_aload_n (pc := 640) hC dL_law_640 rfl ?_
  refine x_iload_n (pc := 641) hC dL_law_641 rfl ?_
  refine x_iconst (pc := 642) hC dL_law_642 ?_
  refine x_iadd (pc := 643) hC dL_law_643 ?_
  refine x_sald (pc := 644) hC hX hb dL_law_644 (by omega) (by omega) hLs ?_
  refine x_callV (pc := 645) hC cv_L_74 dL_law_645 hv ta rfl (by decide) (by omega) (by omega) rfl rfl (Nat.le_of_ble_eq_true rfl) (fun r1 T1 N1 I1 R1 z1 q => ?_)
  obtain ⟨rfl, to, hm⟩ := q
  dsimp only [Option.toList, List.cons_append, List.nil_append]
  refine x_aload_n (pc := 648) hC dL_law_648 rfl ?_
  refine x_aload_n (pc := 649) hC dL_law_649 rfl ?_
  refine x_iload_n (pc := 650) hC dL_law_650 rfl ?_
  refine x_iconst (pc := 651) hC dL_law_651 ?_
  refine x_iadd (pc := 652) hC dL_law_652 ?_
  refine x_sald (pc := 653) hC hX hb dL_law_653 (by omega) (by omega) hLs ?_
  refine x_aload_n (pc := 654) hC dL_law_654 rfl ?_
  refine x_iload_n (pc := 655) hC dL_law_655 rfl ?_
  refine x_iconst (pc := 656) hC dL_law_656 ?_
  refine x_iadd (pc := 657) hC dL_law_657 ?_
  refine x_sald (pc := 658) hC hX hb dL_law_658 (by omega) (by omega) hLs ?_
  refine x_callV (pc := 659) hC cv_L_77 dL_law_659 hm to rfl (by decide) (Nat.zero_le _) (Nat.zero_le _) rfl rfl (Nat.le_of_ble_eq_true rfl) (fun r2 T2 N2 I2 R2 z2 q => ?_)
  obtain ⟨rfl, hLP⟩ := q
  dsimp only [Option.toList, List.cons_append, List.nil_append]
  refine x_icmp_same (pc := 662) hC 1271 dL_law_662 (by decide) rfl ?_
  exact kk T2 N2 I2 R2 z2 _ _ (by omega) (by omega) hLP

set_option maxHeartbeats 4000000 in
set_option maxRecDepth 100000 in
theorem lw_c15 {G : ax_G} {f : ax_F} {Q : ax_P} {T : Nat → Nat} {N : Nat → Int} {I : Nat → Int → Int} {R : Nat → Int → Option Nat} {z k n a o b Ls : Nat} {xs : Nat → Int32} {i s : Int} {nm : MethodName} (hC : axC G f (YL nm) RL 11 600000 7302250) (hX : va_X b Ls xs f.2.2.2.1 G.2.2.2.2.2) (hb : b < G.2.2.2.1) (hLs : Ls ≤ 3072) (hi0 : 0 ≤ i) (hi1 : i + 6 ≤ Ls) (LP : axLP G T N I R z a o s) (hs : s ≤ 2000000) (hk : 48 ≤ k) (hn : 528 ≤ n) (kk : ∀ (T2 : Nat → Nat) (N2 : Nat → Int) (I2 : Nat → Int → Int) (R2 : Nat → Int → Option Nat) (z2 k2 n2 : Nat), k ≤ k2 + 48 → n ≤ n2 + 528 → axLP G T2 N2 I2 R2 z2 a o (s + 25) → axX G f 600000 7302250 Q 1271 [vR b, vR a, vR o, vI i] [] T2 N2 I2 R2 z2 k2 n2) : axX G f 600000 7302250 Q 667 [vR b, vR a, vR o, vI i] [] T N I R z k n := by
  obtain ⟨M, σ, A, w, h, hi, e⟩ := LP
  obtain ⟨v, hv⟩ := pr_go M h hi e hs 
  unfold PRC at hv
  have ta : T a = 11 := fx_ta (rl_fx h)
  refine x_aload_n (pc := 667) hC dL_law_667 rfl ?_
  refine x_callV (pc := 668) hC cv_L_78 dL_law_668 hv ta rfl (by decide) (by omega) (by omega) rfl rfl (Nat.le_of_ble_eq_true rfl) (fun r1 T1 N1 I1 R1 z1 q => ?_)
  obtain ⟨rfl, to, hm⟩ := q
  dsimp only [Option.toList, List.cons_append, List.nil_append]
  refine x_aload_n (pc := 671) hC dL_law_671 rfl ?_
  refine x_callV (pc := 672) hC cv_L_81 dL_law_672 hm to rfl (by decide) (Nat.zero_le _) (Nat.zero_le _) rfl rfl (Nat.le_of_ble_eq_true rfl) (fun r2 T2 N2 I2 R2 z2 q => ?_)
  obtain ⟨rfl, hLP⟩ := q
  dsimp only [Option.toList, List.cons_append, List.nil_append]
  refine x_icmp_same (pc := 675) hC 1271 dL_law_675 (by decide) rfl ?_
  exact kk T2 N2 I2 R2 z2 _ _ (by omega) (by omega) hLP

set_option maxHeartbeats 4000000 in
set_option maxRecDepth 100000 in
theorem lw_c16 {G : ax_G} {f : ax_F} {Q : ax_P} {T : Nat → Nat} {N : Nat → Int} {I : Nat → Int → Int} {R : Nat → Int → Option Nat} {z k n a o b Ls : Nat} {xs : Nat → Int32} {i s : Int} {nm : MethodName} (hC : axC G f (YL nm) RL 11 600000 7302250) (hX : va_X b Ls xs f.2.2.2.1 G.2.2.2.2.2) (hb : b < G.2.2.2.1) (hLs : Ls ≤ 3072) (hi0 : 0 ≤ i) (hi1 : i + 6 ≤ Ls) (LP : axLP G T N I R z a o s) (hs : s ≤ 2000000) (hk : 48 ≤ k) (hn : 528 ≤ n) (kk : ∀ (T2 : Nat → Nat) (N2 : Nat → Int) (I2 : Nat → Int → Int) (R2 : Nat → Int → Option Nat) (z2 k2 n2 : Nat), k ≤ k2 + 48 → n ≤ n2 + 528 → axLP G T2 N2 I2 R2 z2 a o (s + 25) → axX G f 600000 7302250 Q 1271 [vR b, vR a, vR o, vI i] [] T2 N2 I2 R2 z2 k2 n2) : axX G f 600000 7302250 Q 680 [vR b, vR a, vR o, vI i] [] T N I R z k n := by
  obtain ⟨M, σ, A, w, h, hi, e⟩ := LP
  obtain ⟨v, hv⟩ := pr_skip M h hi e hs 
  unfold PRC at hv
  have ta : T a = 11 := fx_ta (rl_fx h)
  refine x_aload_n (pc := 680) hC dL_law_680 rfl ?_
  refine x_callV (pc := 681) hC cv_L_82 dL_law_681 hv ta rfl (by decide) (by omega) (by omega) rfl rfl (Nat.le_of_ble_eq_true rfl) (fun r1 T1 N1 I1 R1 z1 q => ?_)
  obtain ⟨rfl, to, hm⟩ := q
  dsimp only [Option.toList, List.cons_append, List.nil_append]
  refine x_aload_n (pc := 684) hC dL_law_684 rfl ?_
  refine x_callV (pc := 685) hC cv_L_85 dL_law_685 hm to rfl (by decide) (Nat.zero_le _) (Nat.zero_le _) rfl rfl (Nat.le_of_ble_eq_true rfl) (fun r2 T2 N2 I2 R2 z2 q => ?_)
  obtain ⟨rfl, hLP⟩ := q
  dsimp only [Option.toList, List.cons_append, List.nil_append]
  refine x_icmp_same (pc := 688) hC 1271 dL_law_688 (by decide) rfl ?_
  exact kk T2 N2 I2 R2 z2 _ _ (by omega) (by omega) hLP

set_option maxHeartbeats 4000000 in
set_option maxRecDepth 100000 in
theorem lw_c17 {G : ax_G} {f : ax_F} {Q : ax_P} {T : Nat → Nat} {N : Nat → Int} {I : Nat → Int → Int} {R : Nat → Int → Option Nat} {z k n a o b Ls : Nat} {xs : Nat → Int32} {i s : Int} {nm : MethodName} (hC : axC G f (YL nm) RL 11 600000 7302250) (hX : va_X b Ls xs f.2.2.2.1 G.2.2.2.2.2) (hb : b < G.2.2.2.1) (hLs : Ls ≤ 3072) (hi0 : 0 ≤ i) (hi1 : i + 6 ≤ Ls) (LP : axLP G T N I R z a o s) (hs : s ≤ 2000000) (hk : 48 ≤ k) (hn : 528 ≤ n) (kk : ∀ (T2 : Nat → Nat) (N2 : Nat → Int) (I2 : Nat → Int → Int) (R2 : Nat → Int → Option Nat) (z2 k2 n2 : Nat), k ≤ k2 + 48 → n ≤ n2 + 528 → axLP G T2 N2 I2 R2 z2 a o (s + 25) → axX G f 600000 7302250 Q 1271 [vR b, vR a, vR o, vI i] [] T2 N2 I2 R2 z2 k2 n2) : axX G f 600000 7302250 Q 693 [vR b, vR a, vR o, vI i] [] T N I R z k n := by
  obtain ⟨M, σ, A, w, h, hi, e⟩ := LP
  obtain ⟨v, hv⟩ := pr_abort M h hi e hs 
  unfold PRC at hv
  have ta : T a = 11 := fx_ta (rl_fx h)
  refine x_aload_n (pc := 693) hC dL_law_693 rfl ?_
  refine x_callV (pc := 694) hC cv_L_86 dL_law_694 hv ta rfl (by decide) (by omega) (by omega) rfl rfl (Nat.le_of_ble_eq_true rfl) (fun r1 T1 N1 I1 R1 z1 q => ?_)
  obtain ⟨rfl, to, hm⟩ := q
  dsimp only [Option.toList, List.cons_append, List.nil_append]
  refine x_aload_n (pc := 697) hC dL_law_697 rfl ?_
  refine x_callV (pc := 698) hC cv_L_89 dL_law_698 hm to rfl (by decide) (Nat.zero_le _) (Nat.zero_le _) rfl rfl (Nat.le_of_ble_eq_true rfl) (fun r2 T2 N2 I2 R2 z2 q => ?_)
  obtain ⟨rfl, hLP⟩ := q
  dsimp only [Option.toList, List.cons_append, List.nil_append]
  refine x_icmp_same (pc := 701) hC 1271 dL_law_701 (by decide) rfl ?_
  exact kk T2 N2 I2 R2 z2 _ _ (by omega) (by omega) hLP

set_option maxHeartbeats 4000000 in
set_option maxRecDepth 100000 in
theorem lw_c18 {G : ax_G} {f : ax_F} {Q : ax_P} {T : Nat → Nat} {N : Nat → Int} {I : Nat → Int → Int} {R : Nat → Int → Option Nat} {z k n a o b Ls : Nat} {xs : Nat → Int32} {i s : Int} {nm : MethodName} (hC : axC G f (YL nm) RL 11 600000 7302250) (hX : va_X b Ls xs f.2.2.2.1 G.2.2.2.2.2) (hb : b < G.2.2.2.1) (hLs : Ls ≤ 3072) (hi0 : 0 ≤ i) (hi1 : i + 6 ≤ Ls) (LP : axLP G T N I R z a o s) (hs : s ≤ 2000000) (hk : 48 ≤ k) (hn : 528 ≤ n) (kk : ∀ (T2 : Nat → Nat) (N2 : Nat → Int) (I2 : Nat → Int → Int) (R2 : Nat → Int → Option Nat) (z2 k2 n2 : Nat), k ≤ k2 + 48 → n ≤ n2 + 528 → axLP G T2 N2 I2 R2 z2 a o (s + 25) → axX G f 600000 7302250 Q 1271 [vR b, vR a, vR o, vI i] [] T2 N2 I2 R2 z2 k2 n2) : axX G f 600000 7302250 Q 706 [vR b, vR a, vR o, vI i] [] T N I R z k n := by
  obtain ⟨M, σ, A, w, h, hi, e⟩ := LP
  obtain ⟨v, hv⟩ := pr_status M h hi e hs (i32_r (xs (i + 1).toNat))
  unfold PRC at hv
  have ta : T a = 11 := fx_ta (rl_fx h)
  refine x_aload_n (pc := 706) hC dL_law_706 rfl ?_
  refine x_aload_n (pc := 707) hC dL_law_707 rfl ?_
  refine x_iload_n (pc := 708) hC dL_law_708 rfl ?_
  refine x_iconst (pc := 709) hC dL_law_709 ?_
  refine x_iadd (pc := 710) hC dL_law_710 ?_
  refine x_sald (pc := 711) hC hX hb dL_law_711 (by omega) (by omega) hLs ?_
  refine x_callV (pc := 712) hC cv_L_90 dL_law_712 hv ta rfl (by decide) (by omega) (by omega) rfl rfl (Nat.le_of_ble_eq_true rfl) (fun r1 T1 N1 I1 R1 z1 q => ?_)
  obtain ⟨rfl, to, hm⟩ := q
  dsimp only [Option.toList, List.cons_append, List.nil_append]
  refine x_aload_n (pc := 715) hC dL_law_715 rfl ?_
  refine x_aload_n (pc := 716) hC dL_law_716 rfl ?_
  refine x_iload_n (pc := 717) hC dL_law_717 rfl ?_
  refine x_iconst (pc := 718) hC dL_law_718 ?_
  refine x_iadd (pc := 719) hC dL_law_719 ?_
  refine x_sald (pc := 720) hC hX hb dL_law_720 (by omega) (by omega) hLs ?_
  refine x_callV (pc := 721) hC cv_L_93 dL_law_721 hm to rfl (by decide) (Nat.zero_le _) (Nat.zero_le _) rfl rfl (Nat.le_of_ble_eq_true rfl) (fun r2 T2 N2 I2 R2 z2 q => ?_)
  obtain ⟨rfl, hLP⟩ := q
  dsimp only [Option.toList, List.cons_append, List.nil_append]
  refine x_icmp_same (pc := 724) hC 1271 dL_law_724 (by decide) rfl ?_
  exact kk T2 N2 I2 R2 z2 _ _ (by omega) (by omega) hLP

set_option maxHeartbeats 4000000 in
set_option maxRecDepth 100000 in
theorem lw_c19 {G : ax_G} {f : ax_F} {Q : ax_P} {T : Nat → Nat} {N : Nat → Int} {I : Nat → Int → Int} {R : Nat → Int → Option Nat} {z k n a o b Ls : Nat} {xs : Nat → Int32} {i s : Int} {nm : MethodName} (hC : axC G f (YL nm) RL 11 600000 7302250) (hX : va_X b Ls xs f.2.2.2.1 G.2.2.2.2.2) (hb : b < G.2.2.2.1) (hLs : Ls ≤ 3072) (hi0 : 0 ≤ i) (hi1 : i + 6 ≤ Ls) (LP : axLP G T N I R z a o s) (hs : s ≤ 2000000) (hk : 48 ≤ k) (hn : 528 ≤ n) (kk : ∀ (T2 : Nat → Nat) (N2 : Nat → Int) (I2 : Nat → Int → Int) (R2 : Nat → Int → Option Nat) (z2 k2 n2 : Nat), k ≤ k2 + 48 → n ≤ n2 + 528 → axLP G T2 N2 I2 R2 z2 a o (s + 25) → axX G f 600000 7302250 Q 1271 [vR b, vR a, vR o, vI i] [] T2 N2 I2 R2 z2 k2 n2) : axX G f 600000 7302250 Q 729 [vR b, vR a, vR o, vI i] [] T N I R z k n := by
  obtain ⟨M, σ, A, w, h, hi, e⟩ := LP
  obtain ⟨v, hv⟩ := pr_conflict M h hi e hs (i32_r (xs (i + 1).toNat)) (i32_r (xs (i + 2).toNat))
  unfold PRC at hv
  have ta : T a = 11 := fx_ta (rl_fx h)
  refine x_aload_n (pc := 729) hC dL_law_729 rfl ?_
  refine x_aload_n (pc := 730) hC dL_law_730 rfl ?_
  refine x_iload_n (pc := 731) hC dL_law_731 rfl ?_
  refine x_iconst (pc := 732) hC dL_law_732 ?_
  refine x_iadd (pc := 733) hC dL_law_733 ?_
  refine x_sald (pc := 734) hC hX hb dL_law_734 (by omega) (by omega) hLs ?_
  refine x_aload_n (pc := 735) hC dL_law_735 rfl ?_
  refine x_iload_n (pc := 736) hC dL_law_736 rfl ?_
  refine x_iconst (pc := 737) hC dL_law_737 ?_
  refine x_iadd (pc := 738) hC dL_law_738 ?_
  refine x_sald (pc := 739) hC hX hb dL_law_739 (by omega) (by omega) hLs ?_
  refine x_callV (pc := 740) hC cv_L_94 dL_law_740 hv ta rfl (by decide) (by omega) (by omega) rfl rfl (Nat.le_of_ble_eq_true rfl) (fun r1 T1 N1 I1 R1 z1 q => ?_)
  obtain ⟨rfl, to, hm⟩ := q
  dsimp only [Option.toList, List.cons_append, List.nil_append]
  refine x_aload_n (pc := 743) hC dL_law_743 rfl ?_
  refine x_aload_n (pc := 744) hC dL_law_744 rfl ?_
  refine x_iload_n (pc := 745) hC dL_law_745 rfl ?_
  refine x_iconst (pc := 746) hC dL_law_746 ?_
  refine x_iadd (pc := 747) hC dL_law_747 ?_
  refine x_sald (pc := 748) hC hX hb dL_law_748 (by omega) (by omega) hLs ?_
  refine x_aload_n (pc := 749) hC dL_law_749 rfl ?_
  refine x_iload_n (pc := 750) hC dL_law_750 rfl ?_
  refine x_iconst (pc := 751) hC dL_law_751 ?_
  refine x_iadd (pc := 752) hC dL_law_752 ?_
  refine x_sald (pc := 753) hC hX hb dL_law_753 (by omega) (by omega) hLs ?_
  refine x_callV (pc := 754) hC cv_L_97 dL_law_754 hm to rfl (by decide) (Nat.zero_le _) (Nat.zero_le _) rfl rfl (Nat.le_of_ble_eq_true rfl) (fun r2 T2 N2 I2 R2 z2 q => ?_)
  obtain ⟨rfl, hLP⟩ := q
  dsimp only [Option.toList, List.cons_append, List.nil_append]
  refine x_icmp_same (pc := 757) hC 1271 dL_law_757 (by decide) rfl ?_
  exact kk T2 N2 I2 R2 z2 _ _ (by omega) (by omega) hLP

set_option maxHeartbeats 4000000 in
set_option maxRecDepth 100000 in
theorem lw_c20 {G : ax_G} {f : ax_F} {Q : ax_P} {T : Nat → Nat} {N : Nat → Int} {I : Nat → Int → Int} {R : Nat → Int → Option Nat} {z k n a o b Ls : Nat} {xs : Nat → Int32} {i s : Int} {nm : MethodName} (hC : axC G f (YL nm) RL 11 600000 7302250) (hX : va_X b Ls xs f.2.2.2.1 G.2.2.2.2.2) (hb : b < G.2.2.2.1) (hLs : Ls ≤ 3072) (hi0 : 0 ≤ i) (hi1 : i + 6 ≤ Ls) (LP : axLP G T N I R z a o s) (hs : s ≤ 2000000) (hk : 48 ≤ k) (hn : 528 ≤ n) (kk : ∀ (T2 : Nat → Nat) (N2 : Nat → Int) (I2 : Nat → Int → Int) (R2 : Nat → Int → Option Nat) (z2 k2 n2 : Nat), k ≤ k2 + 48 → n ≤ n2 + 528 → axLP G T2 N2 I2 R2 z2 a o (s + 25) → axX G f 600000 7302250 Q 1271 [vR b, vR a, vR o, vI i] [] T2 N2 I2 R2 z2 k2 n2) : axX G f 600000 7302250 Q 762 [vR b, vR a, vR o, vI i] [] T N I R z k n := by
  obtain ⟨M, σ, A, w, h, hi, e⟩ := LP
  obtain ⟨v, hv⟩ := pr_settle M h hi e hs (i32_r (xs (i + 1).toNat)) (i32_r (xs (i + 2).toNat))
  unfold PRC at hv
  have ta : T a = 11 := fx_ta (rl_fx h)
  refine x_aload_n (pc := 762) hC dL_law_762 rfl ?_
  refine x_aload_n (pc := 763) hC dL_law_763 rfl ?_
  refine x_iload_n (pc := 764) hC dL_law_764 rfl ?_
  refine x_iconst (pc := 765) hC dL_law_765 ?_
  refine x_iadd (pc := 766) hC dL_law_766 ?_
  refine x_sald (pc := 767) hC hX hb dL_law_767 (by omega) (by omega) hLs ?_
  refine x_aload_n (pc := 768) hC dL_law_768 rfl ?_
  refine x_iload_n (pc := 769) hC dL_law_769 rfl ?_
  refine x_iconst (pc := 770) hC dL_law_770 ?_
  refine x_iadd (pc := 771) hC dL_law_771 ?_
  refine x_sald (pc := 772) hC hX hb dL_law_772 (by omega) (by omega) hLs ?_
  refine x_callV (pc := 773) hC cv_L_98 dL_law_773 hv ta rfl (by decide) (by omega) (by omega) rfl rfl (Nat.le_of_ble_eq_true rfl) (fun r1 T1 N1 I1 R1 z1 q => ?_)
  obtain ⟨rfl, to, hm⟩ := q
  dsimp only [Option.toList, List.cons_append, List.nil_append]
  refine x_aload_n (pc := 776) hC dL_law_776 rfl ?_
  refine x_aload_n (pc := 777) hC dL_law_777 rfl ?_
  refine x_iload_n (pc := 778) hC dL_law_778 rfl ?_
  refine x_iconst (pc := 779) hC dL_law_779 ?_
  refine x_iadd (pc := 780) hC dL_law_780 ?_
  refine x_sald (pc := 781) hC hX hb dL_law_781 (by omega) (by omega) hLs ?_
  refine x_aload_n (pc := 782) hC dL_law_782 rfl ?_
  refine x_iload_n (pc := 783) hC dL_law_783 rfl ?_
  refine x_iconst (pc := 784) hC dL_law_784 ?_
  refine x_iadd (pc := 785) hC dL_law_785 ?_
  refine x_sald (pc := 786) hC hX hb dL_law_786 (by omega) (by omega) hLs ?_
  refine x_callV (pc := 787) hC cv_L_101 dL_law_787 hm to rfl (by decide) (Nat.zero_le _) (Nat.zero_le _) rfl rfl (Nat.le_of_ble_eq_true rfl) (fun r2 T2 N2 I2 R2 z2 q => ?_)
  obtain ⟨rfl, hLP⟩ := q
  dsimp only [Option.toList, List.cons_append, List.nil_append]
  refine x_icmp_same (pc := 790) hC 1271 dL_law_790 (by decide) rfl ?_
  exact kk T2 N2 I2 R2 z2 _ _ (by omega) (by omega) hLP

set_option maxHeartbeats 4000000 in
set_option maxRecDepth 100000 in
theorem lw_c21 {G : ax_G} {f : ax_F} {Q : ax_P} {T : Nat → Nat} {N : Nat → Int} {I : Nat → Int → Int} {R : Nat → Int → Option Nat} {z k n a o b Ls : Nat} {xs : Nat → Int32} {i s : Int} {nm : MethodName} (hC : axC G f (YL nm) RL 11 600000 7302250) (hX : va_X b Ls xs f.2.2.2.1 G.2.2.2.2.2) (hb : b < G.2.2.2.1) (hLs : Ls ≤ 3072) (hi0 : 0 ≤ i) (hi1 : i + 6 ≤ Ls) (LP : axLP G T N I R z a o s) (hs : s ≤ 2000000) (hk : 48 ≤ k) (hn : 528 ≤ n) (kk : ∀ (T2 : Nat → Nat) (N2 : Nat → Int) (I2 : Nat → Int → Int) (R2 : Nat → Int → Option Nat) (z2 k2 n2 : Nat), k ≤ k2 + 48 → n ≤ n2 + 528 → axLP G T2 N2 I2 R2 z2 a o (s + 25) → axX G f 600000 7302250 Q 1271 [vR b, vR a, vR o, vI i] [] T2 N2 I2 R2 z2 k2 n2) : axX G f 600000 7302250 Q 795 [vR b, vR a, vR o, vI i] [] T N I R z k n := by
  obtain ⟨M, σ, A, w, h, hi, e⟩ := LP
  obtain ⟨v, hv⟩ := pr_foretell M h hi e hs (i32_r (xs (i + 1).toNat)) (i32_r (xs (i + 2).toNat)) (i32_r (xs (i + 3).toNat))
  unfold PRC at hv
  have ta : T a = 11 := fx_ta (rl_fx h)
  refine x_aload_n (pc := 795) hC dL_law_795 rfl ?_
  refine x_aload_n (pc := 796) hC dL_law_796 rfl ?_
  refine x_iload_n (pc := 797) hC dL_law_797 rfl ?_
  refine x_iconst (pc := 798) hC dL_law_798 ?_
  refine x_iadd (pc := 799) hC dL_law_799 ?_
  refine x_sald (pc := 800) hC hX hb dL_law_800 (by omega) (by omega) hLs ?_
  refine x_aload_n (pc := 801) hC dL_law_801 rfl ?_
  refine x_iload_n (pc := 802) hC dL_law_802 rfl ?_
  refine x_iconst (pc := 803) hC dL_law_803 ?_
  refine x_iadd (pc := 804) hC dL_law_804 ?_
  refine x_sald (pc := 805) hC hX hb dL_law_805 (by omega) (by omega) hLs ?_
  refine x_aload_n (pc := 806) hC dL_law_806 rfl ?_
  refine x_iload_n (pc := 807) hC dL_law_807 rfl ?_
  refine x_iconst (pc := 808) hC dL_law_808 ?_
  refine x_iadd (pc := 809) hC dL_law_809 ?_
  refine x_sald (pc := 810) hC hX hb dL_law_810 (by omega) (by omega) hLs ?_
  refine x_callV (pc := 811) hC cv_L_102 dL_law_811 hv ta rfl (by decide) (by omega) (by omega) rfl rfl (Nat.le_of_ble_eq_true rfl) (fun r1 T1 N1 I1 R1 z1 q => ?_)
  obtain ⟨rfl, to, hm⟩ := q
  dsimp only [Option.toList, List.cons_append, List.nil_append]
  refine x_aload_n (pc := 814) hC dL_law_814 rfl ?_
  refine x_aload_n (pc := 815) hC dL_law_815 rfl ?_
  refine x_iload_n (pc := 816) hC dL_law_816 rfl ?_
  refine x_iconst (pc := 817) hC dL_law_817 ?_
  refine x_iadd (pc := 818) hC dL_law_818 ?_
  refine x_sald (pc := 819) hC hX hb dL_law_819 (by omega) (by omega) hLs ?_
  refine x_aload_n (pc := 820) hC dL_law_820 rfl ?_
  refine x_iload_n (pc := 821) hC dL_law_821 rfl ?_
  refine x_iconst (pc := 822) hC dL_law_822 ?_
  refine x_iadd (pc := 823) hC dL_law_823 ?_
  refine x_sald (pc := 824) hC hX hb dL_law_824 (by omega) (by omega) hLs ?_
  refine x_aload_n (pc := 825) hC dL_law_825 rfl ?_
  refine x_iload_n (pc := 826) hC dL_law_826 rfl ?_
  refine x_iconst (pc := 827) hC dL_law_827 ?_
  refine x_iadd (pc := 828) hC dL_law_828 ?_
  refine x_sald (pc := 829) hC hX hb dL_law_829 (by omega) (by omega) hLs ?_
  refine x_callV (pc := 830) hC cv_L_105 dL_law_830 hm to rfl (by decide) (Nat.zero_le _) (Nat.zero_le _) rfl rfl (Nat.le_of_ble_eq_true rfl) (fun r2 T2 N2 I2 R2 z2 q => ?_)
  obtain ⟨rfl, hLP⟩ := q
  dsimp only [Option.toList, List.cons_append, List.nil_append]
  refine x_icmp_same (pc := 833) hC 1271 dL_law_833 (by decide) rfl ?_
  exact kk T2 N2 I2 R2 z2 _ _ (by omega) (by omega) hLP

set_option maxHeartbeats 4000000 in
set_option maxRecDepth 100000 in
theorem lw_c22 {G : ax_G} {f : ax_F} {Q : ax_P} {T : Nat → Nat} {N : Nat → Int} {I : Nat → Int → Int} {R : Nat → Int → Option Nat} {z k n a o b Ls : Nat} {xs : Nat → Int32} {i s : Int} {nm : MethodName} (hC : axC G f (YL nm) RL 11 600000 7302250) (hX : va_X b Ls xs f.2.2.2.1 G.2.2.2.2.2) (hb : b < G.2.2.2.1) (hLs : Ls ≤ 3072) (hi0 : 0 ≤ i) (hi1 : i + 6 ≤ Ls) (LP : axLP G T N I R z a o s) (hs : s ≤ 2000000) (hk : 48 ≤ k) (hn : 528 ≤ n) (kk : ∀ (T2 : Nat → Nat) (N2 : Nat → Int) (I2 : Nat → Int → Int) (R2 : Nat → Int → Option Nat) (z2 k2 n2 : Nat), k ≤ k2 + 48 → n ≤ n2 + 528 → axLP G T2 N2 I2 R2 z2 a o (s + 25) → axX G f 600000 7302250 Q 1271 [vR b, vR a, vR o, vI i] [] T2 N2 I2 R2 z2 k2 n2) : axX G f 600000 7302250 Q 838 [vR b, vR a, vR o, vI i] [] T N I R z k n := by
  obtain ⟨M, σ, A, w, h, hi, e⟩ := LP
  obtain ⟨v, hv⟩ := pr_blank M h hi e hs (i32_r (xs (i + 1).toNat)) (i32_r (xs (i + 2).toNat)) (i32_r (xs (i + 3).toNat))
  unfold PRC at hv
  have ta : T a = 11 := fx_ta (rl_fx h)
  refine x_aload_n (pc := 838) hC dL_law_838 rfl ?_
  refine x_aload_n (pc := 839) hC dL_law_839 rfl ?_
  refine x_iload_n (pc := 840) hC dL_law_840 rfl ?_
  refine x_iconst (pc := 841) hC dL_law_841 ?_
  refine x_iadd (pc := 842) hC dL_law_842 ?_
  refine x_sald (pc := 843) hC hX hb dL_law_843 (by omega) (by omega) hLs ?_
  refine x_aload_n (pc := 844) hC dL_law_844 rfl ?_
  refine x_iload_n (pc := 845) hC dL_law_845 rfl ?_
  refine x_iconst (pc := 846) hC dL_law_846 ?_
  refine x_iadd (pc := 847) hC dL_law_847 ?_
  refine x_sald (pc := 848) hC hX hb dL_law_848 (by omega) (by omega) hLs ?_
  refine x_aload_n (pc := 849) hC dL_law_849 rfl ?_
  refine x_iload_n (pc := 850) hC dL_law_850 rfl ?_
  refine x_iconst (pc := 851) hC dL_law_851 ?_
  refine x_iadd (pc := 852) hC dL_law_852 ?_
  refine x_sald (pc := 853) hC hX hb dL_law_853 (by omega) (by omega) hLs ?_
  refine x_callV (pc := 854) hC cv_L_106 dL_law_854 hv ta rfl (by decide) (by omega) (by omega) rfl rfl (Nat.le_of_ble_eq_true rfl) (fun r1 T1 N1 I1 R1 z1 q => ?_)
  obtain ⟨rfl, to, hm⟩ := q
  dsimp only [Option.toList, List.cons_append, List.nil_append]
  refine x_aload_n (pc := 857) hC dL_law_857 rfl ?_
  refine x_aload_n (pc := 858) hC dL_law_858 rfl ?_
  refine x_iload_n (pc := 859) hC dL_law_859 rfl ?_
  refine x_iconst (pc := 860) hC dL_law_860 ?_
  refine x_iadd (pc := 861) hC dL_law_861 ?_
  refine x_sald (pc := 862) hC hX hb dL_law_862 (by omega) (by omega) hLs ?_
  refine x_aload_n (pc := 863) hC dL_law_863 rfl ?_
  refine x_iload_n (pc := 864) hC dL_law_864 rfl ?_
  refine x_iconst (pc := 865) hC dL_law_865 ?_
  refine x_iadd (pc := 866) hC dL_law_866 ?_
  refine x_sald (pc := 867) hC hX hb dL_law_867 (by omega) (by omega) hLs ?_
  refine x_aload_n (pc := 868) hC dL_law_868 rfl ?_
  refine x_iload_n (pc := 869) hC dL_law_869 rfl ?_
  refine x_iconst (pc := 870) hC dL_law_870 ?_
  refine x_iadd (pc := 871) hC dL_law_871 ?_
  refine x_sald (pc := 872) hC hX hb dL_law_872 (by omega) (by omega) hLs ?_
  refine x_callV (pc := 873) hC cv_L_109 dL_law_873 hm to rfl (by decide) (Nat.zero_le _) (Nat.zero_le _) rfl rfl (Nat.le_of_ble_eq_true rfl) (fun r2 T2 N2 I2 R2 z2 q => ?_)
  obtain ⟨rfl, hLP⟩ := q
  dsimp only [Option.toList, List.cons_append, List.nil_append]
  refine x_icmp_same (pc := 876) hC 1271 dL_law_876 (by decide) rfl ?_
  exact kk T2 N2 I2 R2 z2 _ _ (by omega) (by omega) hLP

set_option maxHeartbeats 4000000 in
set_option maxRecDepth 100000 in
theorem lw_c23 {G : ax_G} {f : ax_F} {Q : ax_P} {T : Nat → Nat} {N : Nat → Int} {I : Nat → Int → Int} {R : Nat → Int → Option Nat} {z k n a o b Ls : Nat} {xs : Nat → Int32} {i s : Int} {nm : MethodName} (hC : axC G f (YL nm) RL 11 600000 7302250) (hX : va_X b Ls xs f.2.2.2.1 G.2.2.2.2.2) (hb : b < G.2.2.2.1) (hLs : Ls ≤ 3072) (hi0 : 0 ≤ i) (hi1 : i + 6 ≤ Ls) (LP : axLP G T N I R z a o s) (hs : s ≤ 2000000) (hk : 48 ≤ k) (hn : 528 ≤ n) (kk : ∀ (T2 : Nat → Nat) (N2 : Nat → Int) (I2 : Nat → Int → Int) (R2 : Nat → Int → Option Nat) (z2 k2 n2 : Nat), k ≤ k2 + 48 → n ≤ n2 + 528 → axLP G T2 N2 I2 R2 z2 a o (s + 25) → axX G f 600000 7302250 Q 1271 [vR b, vR a, vR o, vI i] [] T2 N2 I2 R2 z2 k2 n2) : axX G f 600000 7302250 Q 881 [vR b, vR a, vR o, vI i] [] T N I R z k n := by
  obtain ⟨M, σ, A, w, h, hi, e⟩ := LP
  obtain ⟨v, hv⟩ := pr_show M h hi e hs (i32_r (xs (i + 1).toNat)) (i32_r (xs (i + 2).toNat))
  unfold PRC at hv
  have ta : T a = 11 := fx_ta (rl_fx h)
  refine x_aload_n (pc := 881) hC dL_law_881 rfl ?_
  refine x_aload_n (pc := 882) hC dL_law_882 rfl ?_
  refine x_iload_n (pc := 883) hC dL_law_883 rfl ?_
  refine x_iconst (pc := 884) hC dL_law_884 ?_
  refine x_iadd (pc := 885) hC dL_law_885 ?_
  refine x_sald (pc := 886) hC hX hb dL_law_886 (by omega) (by omega) hLs ?_
  refine x_aload_n (pc := 887) hC dL_law_887 rfl ?_
  refine x_iload_n (pc := 888) hC dL_law_888 rfl ?_
  refine x_iconst (pc := 889) hC dL_law_889 ?_
  refine x_iadd (pc := 890) hC dL_law_890 ?_
  refine x_sald (pc := 891) hC hX hb dL_law_891 (by omega) (by omega) hLs ?_
  refine x_callV (pc := 892) hC cv_L_110 dL_law_892 hv ta rfl (by decide) (by omega) (by omega) rfl rfl (Nat.le_of_ble_eq_true rfl) (fun r1 T1 N1 I1 R1 z1 q => ?_)
  obtain ⟨rfl, to, hm⟩ := q
  dsimp only [Option.toList, List.cons_append, List.nil_append]
  refine x_aload_n (pc := 895) hC dL_law_895 rfl ?_
  refine x_aload_n (pc := 896) hC dL_law_896 rfl ?_
  refine x_iload_n (pc := 897) hC dL_law_897 rfl ?_
  refine x_iconst (pc := 898) hC dL_law_898 ?_
  refine x_iadd (pc := 899) hC dL_law_899 ?_
  refine x_sald (pc := 900) hC hX hb dL_law_900 (by omega) (by omega) hLs ?_
  refine x_aload_n (pc := 901) hC dL_law_901 rfl ?_
  refine x_iload_n (pc := 902) hC dL_law_902 rfl ?_
  refine x_iconst (pc := 903) hC dL_law_903 ?_
  refine x_iadd (pc := 904) hC dL_law_904 ?_
  refine x_sald (pc := 905) hC hX hb dL_law_905 (by omega) (by omega) hLs ?_
  refine x_callV (pc := 906) hC cv_L_113 dL_law_906 hm to rfl (by decide) (Nat.zero_le _) (Nat.zero_le _) rfl rfl (Nat.le_of_ble_eq_true rfl) (fun r2 T2 N2 I2 R2 z2 q => ?_)
  obtain ⟨rfl, hLP⟩ := q
  dsimp only [Option.toList, List.cons_append, List.nil_append]
  refine x_icmp_same (pc := 909) hC 1271 dL_law_909 (by decide) rfl ?_
  exact kk T2 N2 I2 R2 z2 _ _ (by omega) (by omega) hLP

set_option maxHeartbeats 4000000 in
set_option maxRecDepth 100000 in
theorem lw_c24 {G : ax_G} {f : ax_F} {Q : ax_P} {T : Nat → Nat} {N : Nat → Int} {I : Nat → Int → Int} {R : Nat → Int → Option Nat} {z k n a o b Ls : Nat} {xs : Nat → Int32} {i s : Int} {nm : MethodName} (hC : axC G f (YL nm) RL 11 600000 7302250) (hX : va_X b Ls xs f.2.2.2.1 G.2.2.2.2.2) (hb : b < G.2.2.2.1) (hLs : Ls ≤ 3072) (hi0 : 0 ≤ i) (hi1 : i + 6 ≤ Ls) (LP : axLP G T N I R z a o s) (hs : s ≤ 2000000) (hk : 48 ≤ k) (hn : 528 ≤ n) (kk : ∀ (T2 : Nat → Nat) (N2 : Nat → Int) (I2 : Nat → Int → Int) (R2 : Nat → Int → Option Nat) (z2 k2 n2 : Nat), k ≤ k2 + 48 → n ≤ n2 + 528 → axLP G T2 N2 I2 R2 z2 a o (s + 25) → axX G f 600000 7302250 Q 1271 [vR b, vR a, vR o, vI i] [] T2 N2 I2 R2 z2 k2 n2) : axX G f 600000 7302250 Q 914 [vR b, vR a, vR o, vI i] [] T N I R z k n := by
  obtain ⟨M, σ, A, w, h, hi, e⟩ := LP
  obtain ⟨v, hv⟩ := pr_trail M h hi e hs (i32_r (xs (i + 1).toNat)) (i32_r (xs (i + 2).toNat))
  unfold PRC at hv
  have ta : T a = 11 := fx_ta (rl_fx h)
  refine x_aload_n (pc := 914) hC dL_law_914 rfl ?_
  refine x_aload_n (pc := 915) hC dL_law_915 rfl ?_
  refine x_iload_n (pc := 916) hC dL_law_916 rfl ?_
  refine x_iconst (pc := 917) hC dL_law_917 ?_
  refine x_iadd (pc := 918) hC dL_law_918 ?_
  refine x_sald (pc := 919) hC hX hb dL_law_919 (by omega) (by omega) hLs ?_
  refine x_aload_n (pc := 920) hC dL_law_920 rfl ?_
  refine x_iload_n (pc := 921) hC dL_law_921 rfl ?_
  refine x_iconst (pc := 922) hC dL_law_922 ?_
  refine x_iadd (pc := 923) hC dL_law_923 ?_
  refine x_sald (pc := 924) hC hX hb dL_law_924 (by omega) (by omega) hLs ?_
  refine x_callV (pc := 925) hC cv_L_114 dL_law_925 hv ta rfl (by decide) (by omega) (by omega) rfl rfl (Nat.le_of_ble_eq_true rfl) (fun r1 T1 N1 I1 R1 z1 q => ?_)
  obtain ⟨rfl, to, hm⟩ := q
  dsimp only [Option.toList, List.cons_append, List.nil_append]
  refine x_aload_n (pc := 928) hC dL_law_928 rfl ?_
  refine x_aload_n (pc := 929) hC dL_law_929 rfl ?_
  refine x_iload_n (pc := 930) hC dL_law_930 rfl ?_
  refine x_iconst (pc := 931) hC dL_law_931 ?_
  refine x_iadd (pc := 932) hC dL_law_932 ?_
  refine x_sald (pc := 933) hC hX hb dL_law_933 (by omega) (by omega) hLs ?_
  refine x_aload_n (pc := 934) hC dL_law_934 rfl ?_
  refine x_iload_n (pc := 935) hC dL_law_935 rfl ?_
  refine x_iconst (pc := 936) hC dL_law_936 ?_
  refine x_iadd (pc := 937) hC dL_law_937 ?_
  refine x_sald (pc := 938) hC hX hb dL_law_938 (by omega) (by omega) hLs ?_
  refine x_callV (pc := 939) hC cv_L_117 dL_law_939 hm to rfl (by decide) (Nat.zero_le _) (Nat.zero_le _) rfl rfl (Nat.le_of_ble_eq_true rfl) (fun r2 T2 N2 I2 R2 z2 q => ?_)
  obtain ⟨rfl, hLP⟩ := q
  dsimp only [Option.toList, List.cons_append, List.nil_append]
  refine x_icmp_same (pc := 942) hC 1271 dL_law_942 (by decide) rfl ?_
  exact kk T2 N2 I2 R2 z2 _ _ (by omega) (by omega) hLP

set_option maxHeartbeats 4000000 in
set_option maxRecDepth 100000 in
theorem lw_c25 {G : ax_G} {f : ax_F} {Q : ax_P} {T : Nat → Nat} {N : Nat → Int} {I : Nat → Int → Int} {R : Nat → Int → Option Nat} {z k n a o b Ls : Nat} {xs : Nat → Int32} {i s : Int} {nm : MethodName} (hC : axC G f (YL nm) RL 11 600000 7302250) (hX : va_X b Ls xs f.2.2.2.1 G.2.2.2.2.2) (hb : b < G.2.2.2.1) (hLs : Ls ≤ 3072) (hi0 : 0 ≤ i) (hi1 : i + 6 ≤ Ls) (LP : axLP G T N I R z a o s) (hs : s ≤ 2000000) (hk : 48 ≤ k) (hn : 528 ≤ n) (kk : ∀ (T2 : Nat → Nat) (N2 : Nat → Int) (I2 : Nat → Int → Int) (R2 : Nat → Int → Option Nat) (z2 k2 n2 : Nat), k ≤ k2 + 48 → n ≤ n2 + 528 → axLP G T2 N2 I2 R2 z2 a o (s + 25) → axX G f 600000 7302250 Q 1271 [vR b, vR a, vR o, vI i] [] T2 N2 I2 R2 z2 k2 n2) : axX G f 600000 7302250 Q 947 [vR b, vR a, vR o, vI i] [] T N I R z k n := by
  obtain ⟨M, σ, A, w, h, hi, e⟩ := LP
  obtain ⟨v, hv⟩ := pr_hold M h hi e hs (i32_r (xs (i + 1).toNat)) (i32_r (xs (i + 2).toNat))
  unfold PRC at hv
  have ta : T a = 11 := fx_ta (rl_fx h)
  refine x_aload_n (pc := 947) hC dL_law_947 rfl ?_
  refine x_aload_n (pc := 948) hC dL_law_948 rfl ?_
  refine x_iload_n (pc := 949) hC dL_law_949 rfl ?_
  refine x_iconst (pc := 950) hC dL_law_950 ?_
  refine x_iadd (pc := 951) hC dL_law_951 ?_
  refine x_sald (pc := 952) hC hX hb dL_law_952 (by omega) (by omega) hLs ?_
  refine x_aload_n (pc := 953) hC dL_law_953 rfl ?_
  refine x_iload_n (pc := 954) hC dL_law_954 rfl ?_
  refine x_iconst (pc := 955) hC dL_law_955 ?_
  refine x_iadd (pc := 956) hC dL_law_956 ?_
  refine x_sald (pc := 957) hC hX hb dL_law_957 (by omega) (by omega) hLs ?_
  refine x_callV (pc := 958) hC cv_L_118 dL_law_958 hv ta rfl (by decide) (by omega) (by omega) rfl rfl (Nat.le_of_ble_eq_true rfl) (fun r1 T1 N1 I1 R1 z1 q => ?_)
  obtain ⟨rfl, to, hm⟩ := q
  dsimp only [Option.toList, List.cons_append, List.nil_append]
  refine x_aload_n (pc := 961) hC dL_law_961 rfl ?_
  refine x_aload_n (pc := 962) hC dL_law_962 rfl ?_
  refine x_iload_n (pc := 963) hC dL_law_963 rfl ?_
  refine x_iconst (pc := 964) hC dL_law_964 ?_
  refine x_iadd (pc := 965) hC dL_law_965 ?_
  refine x_sald (pc := 966) hC hX hb dL_law_966 (by omega) (by omega) hLs ?_
  refine x_aload_n (pc := 967) hC dL_law_967 rfl ?_
  refine x_iload_n (pc := 968) hC dL_law_968 rfl ?_
  refine x_iconst (pc := 969) hC dL_law_969 ?_
  refine x_iadd (pc := 970) hC dL_law_970 ?_
  refine x_sald (pc := 971) hC hX hb dL_law_971 (by omega) (by omega) hLs ?_
  refine x_callV (pc := 972) hC cv_L_121 dL_law_972 hm to rfl (by decide) (Nat.zero_le _) (Nat.zero_le _) rfl rfl (Nat.le_of_ble_eq_true rfl) (fun r2 T2 N2 I2 R2 z2 q => ?_)
  obtain ⟨rfl, hLP⟩ := q
  dsimp only [Option.toList, List.cons_append, List.nil_append]
  refine x_icmp_same (pc := 975) hC 1271 dL_law_975 (by decide) rfl ?_
  exact kk T2 N2 I2 R2 z2 _ _ (by omega) (by omega) hLP

set_option maxHeartbeats 4000000 in
set_option maxRecDepth 100000 in
theorem lw_c26 {G : ax_G} {f : ax_F} {Q : ax_P} {T : Nat → Nat} {N : Nat → Int} {I : Nat → Int → Int} {R : Nat → Int → Option Nat} {z k n a o b Ls : Nat} {xs : Nat → Int32} {i s : Int} {nm : MethodName} (hC : axC G f (YL nm) RL 11 600000 7302250) (hX : va_X b Ls xs f.2.2.2.1 G.2.2.2.2.2) (hb : b < G.2.2.2.1) (hLs : Ls ≤ 3072) (hi0 : 0 ≤ i) (hi1 : i + 6 ≤ Ls) (LP : axLP G T N I R z a o s) (hs : s ≤ 2000000) (hk : 48 ≤ k) (hn : 528 ≤ n) (kk : ∀ (T2 : Nat → Nat) (N2 : Nat → Int) (I2 : Nat → Int → Int) (R2 : Nat → Int → Option Nat) (z2 k2 n2 : Nat), k ≤ k2 + 48 → n ≤ n2 + 528 → axLP G T2 N2 I2 R2 z2 a o (s + 25) → axX G f 600000 7302250 Q 1271 [vR b, vR a, vR o, vI i] [] T2 N2 I2 R2 z2 k2 n2) : axX G f 600000 7302250 Q 980 [vR b, vR a, vR o, vI i] [] T N I R z k n := by
  obtain ⟨M, σ, A, w, h, hi, e⟩ := LP
  obtain ⟨v, hv⟩ := pr_held M h hi e hs (i32_r (xs (i + 1).toNat))
  unfold PRC at hv
  have ta : T a = 11 := fx_ta (rl_fx h)
  refine x_aload_n (pc := 980) hC dL_law_980 rfl ?_
  refine x_aload_n (pc := 981) hC dL_law_981 rfl ?_
  refine x_iload_n (pc := 982) hC dL_law_982 rfl ?_
  refine x_iconst (pc := 983) hC dL_law_983 ?_
  refine x_iadd (pc := 984) hC dL_law_984 ?_
  refine x_sald (pc := 985) hC hX hb dL_law_985 (by omega) (by omega) hLs ?_
  refine x_callV (pc := 986) hC cv_L_122 dL_law_986 hv ta rfl (by decide) (by omega) (by omega) rfl rfl (Nat.le_of_ble_eq_true rfl) (fun r1 T1 N1 I1 R1 z1 q => ?_)
  obtain ⟨rfl, to, hm⟩ := q
  dsimp only [Option.toList, List.cons_append, List.nil_append]
  refine x_aload_n (pc := 989) hC dL_law_989 rfl ?_
  refine x_aload_n (pc := 990) hC dL_law_990 rfl ?_
  refine x_iload_n (pc := 991) hC dL_law_991 rfl ?_
  refine x_iconst (pc := 992) hC dL_law_992 ?_
  refine x_iadd (pc := 993) hC dL_law_993 ?_
  refine x_sald (pc := 994) hC hX hb dL_law_994 (by omega) (by omega) hLs ?_
  refine x_callV (pc := 995) hC cv_L_125 dL_law_995 hm to rfl (by decide) (Nat.zero_le _) (Nat.zero_le _) rfl rfl (Nat.le_of_ble_eq_true rfl) (fun r2 T2 N2 I2 R2 z2 q => ?_)
  obtain ⟨rfl, hLP⟩ := q
  dsimp only [Option.toList, List.cons_append, List.nil_append]
  refine x_icmp_same (pc := 998) hC 1271 dL_law_998 (by decide) rfl ?_
  exact kk T2 N2 I2 R2 z2 _ _ (by omega) (by omega) hLP

set_option maxHeartbeats 4000000 in
set_option maxRecDepth 100000 in
theorem lw_c27 {G : ax_G} {f : ax_F} {Q : ax_P} {T : Nat → Nat} {N : Nat → Int} {I : Nat → Int → Int} {R : Nat → Int → Option Nat} {z k n a o b Ls : Nat} {xs : Nat → Int32} {i s : Int} {nm : MethodName} (hC : axC G f (YL nm) RL 11 600000 7302250) (hX : va_X b Ls xs f.2.2.2.1 G.2.2.2.2.2) (hb : b < G.2.2.2.1) (hLs : Ls ≤ 3072) (hi0 : 0 ≤ i) (hi1 : i + 6 ≤ Ls) (LP : axLP G T N I R z a o s) (hs : s ≤ 2000000) (hk : 48 ≤ k) (hn : 528 ≤ n) (kk : ∀ (T2 : Nat → Nat) (N2 : Nat → Int) (I2 : Nat → Int → Int) (R2 : Nat → Int → Option Nat) (z2 k2 n2 : Nat), k ≤ k2 + 48 → n ≤ n2 + 528 → axLP G T2 N2 I2 R2 z2 a o (s + 25) → axX G f 600000 7302250 Q 1271 [vR b, vR a, vR o, vI i] [] T2 N2 I2 R2 z2 k2 n2) : axX G f 600000 7302250 Q 1003 [vR b, vR a, vR o, vI i] [] T N I R z k n := by
  obtain ⟨M, σ, A, w, h, hi, e⟩ := LP
  obtain ⟨v, hv⟩ := pr_as M h hi e hs (i32_r (xs (i + 1).toNat)) (i32_r (xs (i + 2).toNat))
  unfold PRC at hv
  have ta : T a = 11 := fx_ta (rl_fx h)
  refine x_aload_n (pc := 1003) hC dL_law_1003 rfl ?_
  refine x_aload_n (pc := 1004) hC dL_law_1004 rfl ?_
  refine x_iload_n (pc := 1005) hC dL_law_1005 rfl ?_
  refine x_iconst (pc := 1006) hC dL_law_1006 ?_
  refine x_iadd (pc := 1007) hC dL_law_1007 ?_
  refine x_sald (pc := 1008) hC hX hb dL_law_1008 (by omega) (by omega) hLs ?_
  refine x_aload_n (pc := 1009) hC dL_law_1009 rfl ?_
  refine x_iload_n (pc := 1010) hC dL_law_1010 rfl ?_
  refine x_iconst (pc := 1011) hC dL_law_1011 ?_
  refine x_iadd (pc := 1012) hC dL_law_1012 ?_
  refine x_sald (pc := 1013) hC hX hb dL_law_1013 (by omega) (by omega) hLs ?_
  refine x_callV (pc := 1014) hC cv_L_126 dL_law_1014 hv ta rfl (by decide) (by omega) (by omega) rfl rfl (Nat.le_of_ble_eq_true rfl) (fun r1 T1 N1 I1 R1 z1 q => ?_)
  obtain ⟨rfl, to, hm⟩ := q
  dsimp only [Option.toList, List.cons_append, List.nil_append]
  refine x_aload_n (pc := 1017) hC dL_law_1017 rfl ?_
  refine x_aload_n (pc := 1018) hC dL_law_1018 rfl ?_
  refine x_iload_n (pc := 1019) hC dL_law_1019 rfl ?_
  refine x_iconst (pc := 1020) hC dL_law_1020 ?_
  refine x_iadd (pc := 1021) hC dL_law_1021 ?_
  refine x_sald (pc := 1022) hC hX hb dL_law_1022 (by omega) (by omega) hLs ?_
  refine x_aload_n (pc := 1023) hC dL_law_1023 rfl ?_
  refine x_iload_n (pc := 1024) hC dL_law_1024 rfl ?_
  refine x_iconst (pc := 1025) hC dL_law_1025 ?_
  refine x_iadd (pc := 1026) hC dL_law_1026 ?_
  refine x_sald (pc := 1027) hC hX hb dL_law_1027 (by omega) (by omega) hLs ?_
  refine x_callV (pc := 1028) hC cv_L_129 dL_law_1028 hm to rfl (by decide) (Nat.zero_le _) (Nat.zero_le _) rfl rfl (Nat.le_of_ble_eq_true rfl) (fun r2 T2 N2 I2 R2 z2 q => ?_)
  obtain ⟨rfl, hLP⟩ := q
  dsimp only [Option.toList, List.cons_append, List.nil_append]
  refine x_icmp_same (pc := 1031) hC 1271 dL_law_1031 (by decide) rfl ?_
  exact kk T2 N2 I2 R2 z2 _ _ (by omega) (by omega) hLP

set_option maxHeartbeats 4000000 in
set_option maxRecDepth 100000 in
theorem lw_c28 {G : ax_G} {f : ax_F} {Q : ax_P} {T : Nat → Nat} {N : Nat → Int} {I : Nat → Int → Int} {R : Nat → Int → Option Nat} {z k n a o b Ls : Nat} {xs : Nat → Int32} {i s : Int} {nm : MethodName} (hC : axC G f (YL nm) RL 11 600000 7302250) (hX : va_X b Ls xs f.2.2.2.1 G.2.2.2.2.2) (hb : b < G.2.2.2.1) (hLs : Ls ≤ 3072) (hi0 : 0 ≤ i) (hi1 : i + 6 ≤ Ls) (LP : axLP G T N I R z a o s) (hs : s ≤ 2000000) (hk : 48 ≤ k) (hn : 528 ≤ n) (kk : ∀ (T2 : Nat → Nat) (N2 : Nat → Int) (I2 : Nat → Int → Int) (R2 : Nat → Int → Option Nat) (z2 k2 n2 : Nat), k ≤ k2 + 48 → n ≤ n2 + 528 → axLP G T2 N2 I2 R2 z2 a o (s + 25) → axX G f 600000 7302250 Q 1271 [vR b, vR a, vR o, vI i] [] T2 N2 I2 R2 z2 k2 n2) : axX G f 600000 7302250 Q 1036 [vR b, vR a, vR o, vI i] [] T N I R z k n := by
  obtain ⟨M, σ, A, w, h, hi, e⟩ := LP
  obtain ⟨v, hv⟩ := pr_lose M h hi e hs (i32_r (xs (i + 1).toNat))
  unfold PRC at hv
  have ta : T a = 11 := fx_ta (rl_fx h)
  refine x_aload_n (pc := 1036) hC dL_law_1036 rfl ?_
  refine x_aload_n (pc := 1037) hC dL_law_1037 rfl ?_
  refine x_iload_n (pc := 1038) hC dL_law_1038 rfl ?_
  refine x_iconst (pc := 1039) hC dL_law_1039 ?_
  refine x_iadd (pc := 1040) hC dL_law_1040 ?_
  refine x_sald (pc := 1041) hC hX hb dL_law_1041 (by omega) (by omega) hLs ?_
  refine x_callV (pc := 1042) hC cv_L_130 dL_law_1042 hv ta rfl (by decide) (by omega) (by omega) rfl rfl (Nat.le_of_ble_eq_true rfl) (fun r1 T1 N1 I1 R1 z1 q => ?_)
  obtain ⟨rfl, to, hm⟩ := q
  dsimp only [Option.toList, List.cons_append, List.nil_append]
  refine x_aload_n (pc := 1045) hC dL_law_1045 rfl ?_
  refine x_aload_n (pc := 1046) hC dL_law_1046 rfl ?_
  refine x_iload_n (pc := 1047) hC dL_law_1047 rfl ?_
  refine x_iconst (pc := 1048) hC dL_law_1048 ?_
  refine x_iadd (pc := 1049) hC dL_law_1049 ?_
  refine x_sald (pc := 1050) hC hX hb dL_law_1050 (by omega) (by omega) hLs ?_
  refine x_callV (pc := 1051) hC cv_L_133 dL_law_1051 hm to rfl (by decide) (Nat.zero_le _) (Nat.zero_le _) rfl rfl (Nat.le_of_ble_eq_true rfl) (fun r2 T2 N2 I2 R2 z2 q => ?_)
  obtain ⟨rfl, hLP⟩ := q
  dsimp only [Option.toList, List.cons_append, List.nil_append]
  refine x_icmp_same (pc := 1054) hC 1271 dL_law_1054 (by decide) rfl ?_
  exact kk T2 N2 I2 R2 z2 _ _ (by omega) (by omega) hLP

set_option maxHeartbeats 4000000 in
set_option maxRecDepth 100000 in
theorem lw_c29 {G : ax_G} {f : ax_F} {Q : ax_P} {T : Nat → Nat} {N : Nat → Int} {I : Nat → Int → Int} {R : Nat → Int → Option Nat} {z k n a o b Ls : Nat} {xs : Nat → Int32} {i s : Int} {nm : MethodName} (hC : axC G f (YL nm) RL 11 600000 7302250) (hX : va_X b Ls xs f.2.2.2.1 G.2.2.2.2.2) (hb : b < G.2.2.2.1) (hLs : Ls ≤ 3072) (hi0 : 0 ≤ i) (hi1 : i + 6 ≤ Ls) (LP : axLP G T N I R z a o s) (hs : s ≤ 2000000) (hk : 48 ≤ k) (hn : 528 ≤ n) (kk : ∀ (T2 : Nat → Nat) (N2 : Nat → Int) (I2 : Nat → Int → Int) (R2 : Nat → Int → Option Nat) (z2 k2 n2 : Nat), k ≤ k2 + 48 → n ≤ n2 + 528 → axLP G T2 N2 I2 R2 z2 a o (s + 25) → axX G f 600000 7302250 Q 1271 [vR b, vR a, vR o, vI i] [] T2 N2 I2 R2 z2 k2 n2) : axX G f 600000 7302250 Q 1059 [vR b, vR a, vR o, vI i] [] T N I R z k n := by
  obtain ⟨M, σ, A, w, h, hi, e⟩ := LP
  obtain ⟨v, hv⟩ := pr_write M h hi e hs (i32_r (xs (i + 1).toNat)) (i32_r (xs (i + 2).toNat)) (i32_r (xs (i + 3).toNat))
  unfold PRC at hv
  have ta : T a = 11 := fx_ta (rl_fx h)
  refine x_aload_n (pc := 1059) hC dL_law_1059 rfl ?_
  refine x_aload_n (pc := 1060) hC dL_law_1060 rfl ?_
  refine x_iload_n (pc := 1061) hC dL_law_1061 rfl ?_
  refine x_iconst (pc := 1062) hC dL_law_1062 ?_
  refine x_iadd (pc := 1063) hC dL_law_1063 ?_
  refine x_sald (pc := 1064) hC hX hb dL_law_1064 (by omega) (by omega) hLs ?_
  refine x_aload_n (pc := 1065) hC dL_law_1065 rfl ?_
  refine x_iload_n (pc := 1066) hC dL_law_1066 rfl ?_
  refine x_iconst (pc := 1067) hC dL_law_1067 ?_
  refine x_iadd (pc := 1068) hC dL_law_1068 ?_
  refine x_sald (pc := 1069) hC hX hb dL_law_1069 (by omega) (by omega) hLs ?_
  refine x_aload_n (pc := 1070) hC dL_law_1070 rfl ?_
  refine x_iload_n (pc := 1071) hC dL_law_1071 rfl ?_
  refine x_iconst (pc := 1072) hC dL_law_1072 ?_
  refine x_iadd (pc := 1073) hC dL_law_1073 ?_
  refine x_sald (pc := 1074) hC hX hb dL_law_1074 (by omega) (by omega) hLs ?_
  refine x_callV (pc := 1075) hC cv_L_134 dL_law_1075 hv ta rfl (by decide) (by omega) (by omega) rfl rfl (Nat.le_of_ble_eq_true rfl) (fun r1 T1 N1 I1 R1 z1 q => ?_)
  obtain ⟨rfl, to, hm⟩ := q
  dsimp only [Option.toList, List.cons_append, List.nil_append]
  refine x_aload_n (pc := 1078) hC dL_law_1078 rfl ?_
  refine x_aload_n (pc := 1079) hC dL_law_1079 rfl ?_
  refine x_iload_n (pc := 1080) hC dL_law_1080 rfl ?_
  refine x_iconst (pc := 1081) hC dL_law_1081 ?_
  refine x_iadd (pc := 1082) hC dL_law_1082 ?_
  refine x_sald (pc := 1083) hC hX hb dL_law_1083 (by omega) (by omega) hLs ?_
  refine x_aload_n (pc := 1084) hC dL_law_1084 rfl ?_
  refine x_iload_n (pc := 1085) hC dL_law_1085 rfl ?_
  refine x_iconst (pc := 1086) hC dL_law_1086 ?_
  refine x_iadd (pc := 1087) hC dL_law_1087 ?_
  refine x_sald (pc := 1088) hC hX hb dL_law_1088 (by omega) (by omega) hLs ?_
  refine x_aload_n (pc := 1089) hC dL_law_1089 rfl ?_
  refine x_iload_n (pc := 1090) hC dL_law_1090 rfl ?_
  refine x_iconst (pc := 1091) hC dL_law_1091 ?_
  refine x_iadd (pc := 1092) hC dL_law_1092 ?_
  refine x_sald (pc := 1093) hC hX hb dL_law_1093 (by omega) (by omega) hLs ?_
  refine x_callV (pc := 1094) hC cv_L_137 dL_law_1094 hm to rfl (by decide) (Nat.zero_le _) (Nat.zero_le _) rfl rfl (Nat.le_of_ble_eq_true rfl) (fun r2 T2 N2 I2 R2 z2 q => ?_)
  obtain ⟨rfl, hLP⟩ := q
  dsimp only [Option.toList, List.cons_append, List.nil_append]
  refine x_icmp_same (pc := 1097) hC 1271 dL_law_1097 (by decide) rfl ?_
  exact kk T2 N2 I2 R2 z2 _ _ (by omega) (by omega) hLP

set_option maxHeartbeats 4000000 in
set_option maxRecDepth 100000 in
theorem lw_c30 {G : ax_G} {f : ax_F} {Q : ax_P} {T : Nat → Nat} {N : Nat → Int} {I : Nat → Int → Int} {R : Nat → Int → Option Nat} {z k n a o b Ls : Nat} {xs : Nat → Int32} {i s : Int} {nm : MethodName} (hC : axC G f (YL nm) RL 11 600000 7302250) (hX : va_X b Ls xs f.2.2.2.1 G.2.2.2.2.2) (hb : b < G.2.2.2.1) (hLs : Ls ≤ 3072) (hi0 : 0 ≤ i) (hi1 : i + 6 ≤ Ls) (LP : axLP G T N I R z a o s) (hs : s ≤ 2000000) (hk : 48 ≤ k) (hn : 528 ≤ n) (kk : ∀ (T2 : Nat → Nat) (N2 : Nat → Int) (I2 : Nat → Int → Int) (R2 : Nat → Int → Option Nat) (z2 k2 n2 : Nat), k ≤ k2 + 48 → n ≤ n2 + 528 → axLP G T2 N2 I2 R2 z2 a o (s + 25) → axX G f 600000 7302250 Q 1271 [vR b, vR a, vR o, vI i] [] T2 N2 I2 R2 z2 k2 n2) : axX G f 600000 7302250 Q 1102 [vR b, vR a, vR o, vI i] [] T N I R z k n := by
  obtain ⟨M, σ, A, w, h, hi, e⟩ := LP
  obtain ⟨v, hv⟩ := pr_number M h hi e hs (i32_r (xs (i + 1).toNat)) (i32_r (xs (i + 2).toNat))
  unfold PRC at hv
  have ta : T a = 11 := fx_ta (rl_fx h)
  refine x_aload_n (pc := 1102) hC dL_law_1102 rfl ?_
  refine x_aload_n (pc := 1103) hC dL_law_1103 rfl ?_
  refine x_iload_n (pc := 1104) hC dL_law_1104 rfl ?_
  refine x_iconst (pc := 1105) hC dL_law_1105 ?_
  refine x_iadd (pc := 1106) hC dL_law_1106 ?_
  refine x_sald (pc := 1107) hC hX hb dL_law_1107 (by omega) (by omega) hLs ?_
  refine x_aload_n (pc := 1108) hC dL_law_1108 rfl ?_
  refine x_iload_n (pc := 1109) hC dL_law_1109 rfl ?_
  refine x_iconst (pc := 1110) hC dL_law_1110 ?_
  refine x_iadd (pc := 1111) hC dL_law_1111 ?_
  refine x_sald (pc := 1112) hC hX hb dL_law_1112 (by omega) (by omega) hLs ?_
  refine x_callV (pc := 1113) hC cv_L_138 dL_law_1113 hv ta rfl (by decide) (by omega) (by omega) rfl rfl (Nat.le_of_ble_eq_true rfl) (fun r1 T1 N1 I1 R1 z1 q => ?_)
  obtain ⟨rfl, to, hm⟩ := q
  dsimp only [Option.toList, List.cons_append, List.nil_append]
  refine x_aload_n (pc := 1116) hC dL_law_1116 rfl ?_
  refine x_aload_n (pc := 1117) hC dL_law_1117 rfl ?_
  refine x_iload_n (pc := 1118) hC dL_law_1118 rfl ?_
  refine x_iconst (pc := 1119) hC dL_law_1119 ?_
  refine x_iadd (pc := 1120) hC dL_law_1120 ?_
  refine x_sald (pc := 1121) hC hX hb dL_law_1121 (by omega) (by omega) hLs ?_
  refine x_aload_n (pc := 1122) hC dL_law_1122 rfl ?_
  refine x_iload_n (pc := 1123) hC dL_law_1123 rfl ?_
  refine x_iconst (pc := 1124) hC dL_law_1124 ?_
  refine x_iadd (pc := 1125) hC dL_law_1125 ?_
  refine x_sald (pc := 1126) hC hX hb dL_law_1126 (by omega) (by omega) hLs ?_
  refine x_callV (pc := 1127) hC cv_L_142 dL_law_1127 hm to rfl (by decide) (Nat.zero_le _) (Nat.zero_le _) rfl rfl (Nat.le_of_ble_eq_true rfl) (fun r2 T2 N2 I2 R2 z2 q => ?_)
  obtain ⟨rfl, hLP⟩ := q
  dsimp only [Option.toList, List.cons_append, List.nil_append]
  refine x_lcmp_same (pc := 1130) hC dL_law_1130 rfl ?_
  refine x_if_eq (pc := 1131) hC 1271 dL_law_1131 (by decide) (by decide) (fun _ => ?_) (fun h9 => absurd rfl h9)
  exact kk T2 N2 I2 R2 z2 _ _ (by omega) (by omega) hLP

set_option maxHeartbeats 4000000 in
set_option maxRecDepth 100000 in
theorem lw_c31 {G : ax_G} {f : ax_F} {Q : ax_P} {T : Nat → Nat} {N : Nat → Int} {I : Nat → Int → Int} {R : Nat → Int → Option Nat} {z k n a o b Ls : Nat} {xs : Nat → Int32} {i s : Int} {nm : MethodName} (hC : axC G f (YL nm) RL 11 600000 7302250) (hX : va_X b Ls xs f.2.2.2.1 G.2.2.2.2.2) (hb : b < G.2.2.2.1) (hLs : Ls ≤ 3072) (hi0 : 0 ≤ i) (hi1 : i + 6 ≤ Ls) (LP : axLP G T N I R z a o s) (hs : s ≤ 2000000) (hk : 48 ≤ k) (hn : 528 ≤ n) (kk : ∀ (T2 : Nat → Nat) (N2 : Nat → Int) (I2 : Nat → Int → Int) (R2 : Nat → Int → Option Nat) (z2 k2 n2 : Nat), k ≤ k2 + 48 → n ≤ n2 + 528 → axLP G T2 N2 I2 R2 z2 a o (s + 25) → axX G f 600000 7302250 Q 1271 [vR b, vR a, vR o, vI i] [] T2 N2 I2 R2 z2 k2 n2) : axX G f 600000 7302250 Q 1136 [vR b, vR a, vR o, vI i] [] T N I R z k n := by
  obtain ⟨M, σ, A, w, h, hi, e⟩ := LP
  obtain ⟨v, hv⟩ := pr_copy M h hi e hs (i32_r (xs (i + 1).toNat)) (i32_r (xs (i + 2).toNat)) (i32_r (xs (i + 3).toNat)) (i32_r (xs (i + 4).toNat)) (i32_r (xs (i + 5).toNat))
  unfold PRC at hv
  have ta : T a = 11 := fx_ta (rl_fx h)
  refine x_aload_n (pc := 1136) hC dL_law_1136 rfl ?_
  refine x_aload_n (pc := 1137) hC dL_law_1137 rfl ?_
  refine x_iload_n (pc := 1138) hC dL_law_1138 rfl ?_
  refine x_iconst (pc := 1139) hC dL_law_1139 ?_
  refine x_iadd (pc := 1140) hC dL_law_1140 ?_
  refine x_sald (pc := 1141) hC hX hb dL_law_1141 (by omega) (by omega) hLs ?_
  refine x_aload_n (pc := 1142) hC dL_law_1142 rfl ?_
  refine x_iload_n (pc := 1143) hC dL_law_1143 rfl ?_
  refine x_iconst (pc := 1144) hC dL_law_1144 ?_
  refine x_iadd (pc := 1145) hC dL_law_1145 ?_
  refine x_sald (pc := 1146) hC hX hb dL_law_1146 (by omega) (by omega) hLs ?_
  refine x_aload_n (pc := 1147) hC dL_law_1147 rfl ?_
  refine x_iload_n (pc := 1148) hC dL_law_1148 rfl ?_
  refine x_iconst (pc := 1149) hC dL_law_1149 ?_
  refine x_iadd (pc := 1150) hC dL_law_1150 ?_
  refine x_sald (pc := 1151) hC hX hb dL_law_1151 (by omega) (by omega) hLs ?_
  refine x_aload_n (pc := 1152) hC dL_law_1152 rfl ?_
  refine x_iload_n (pc := 1153) hC dL_law_1153 rfl ?_
  refine x_iconst (pc := 1154) hC dL_law_1154 ?_
  refine x_iadd (pc := 1155) hC dL_law_1155 ?_
  refine x_sald (pc := 1156) hC hX hb dL_law_1156 (by omega) (by omega) hLs ?_
  refine x_aload_n (pc := 1157) hC dL_law_1157 rfl ?_
  refine x_iload_n (pc := 1158) hC dL_law_1158 rfl ?_
  refine x_iconst (pc := 1159) hC dL_law_1159 ?_
  refine x_iadd (pc := 1160) hC dL_law_1160 ?_
  refine x_sald (pc := 1161) hC hX hb dL_law_1161 (by omega) (by omega) hLs ?_
  refine x_callV (pc := 1162) hC cv_L_143 dL_law_1162 hv ta rfl (by decide) (by omega) (by omega) rfl rfl (Nat.le_of_ble_eq_true rfl) (fun r1 T1 N1 I1 R1 z1 q => ?_)
  obtain ⟨rfl, to, hm⟩ := q
  dsimp only [Option.toList, List.cons_append, List.nil_append]
  refine x_aload_n (pc := 1165) hC dL_law_1165 rfl ?_
  refine x_aload_n (pc := 1166) hC dL_law_1166 rfl ?_
  refine x_iload_n (pc := 1167) hC dL_law_1167 rfl ?_
  refine x_iconst (pc := 1168) hC dL_law_1168 ?_
  refine x_iadd (pc := 1169) hC dL_law_1169 ?_
  refine x_sald (pc := 1170) hC hX hb dL_law_1170 (by omega) (by omega) hLs ?_
  refine x_aload_n (pc := 1171) hC dL_law_1171 rfl ?_
  refine x_iload_n (pc := 1172) hC dL_law_1172 rfl ?_
  refine x_iconst (pc := 1173) hC dL_law_1173 ?_
  refine x_iadd (pc := 1174) hC dL_law_1174 ?_
  refine x_sald (pc := 1175) hC hX hb dL_law_1175 (by omega) (by omega) hLs ?_
  refine x_aload_n (pc := 1176) hC dL_law_1176 rfl ?_
  refine x_iload_n (pc := 1177) hC dL_law_1177 rfl ?_
  refine x_iconst (pc := 1178) hC dL_law_1178 ?_
  refine x_iadd (pc := 1179) hC dL_law_1179 ?_
  refine x_sald (pc := 1180) hC hX hb dL_law_1180 (by omega) (by omega) hLs ?_
  refine x_aload_n (pc := 1181) hC dL_law_1181 rfl ?_
  refine x_iload_n (pc := 1182) hC dL_law_1182 rfl ?_
  refine x_iconst (pc := 1183) hC dL_law_1183 ?_
  refine x_iadd (pc := 1184) hC dL_law_1184 ?_
  refine x_sald (pc := 1185) hC hX hb dL_law_1185 (by omega) (by omega) hLs ?_
  refine x_aload_n (pc := 1186) hC dL_law_1186 rfl ?_
  refine x_iload_n (pc := 1187) hC dL_law_1187 rfl ?_
  refine x_iconst (pc := 1188) hC dL_law_1188 ?_
  refine x_iadd (pc := 1189) hC dL_law_1189 ?_
  refine x_sald (pc := 1190) hC hX hb dL_law_1190 (by omega) (by omega) hLs ?_
  refine x_callV (pc := 1191) hC cv_L_147 dL_law_1191 hm to rfl (by decide) (Nat.zero_le _) (Nat.zero_le _) rfl rfl (Nat.le_of_ble_eq_true rfl) (fun r2 T2 N2 I2 R2 z2 q => ?_)
  obtain ⟨rfl, hLP⟩ := q
  dsimp only [Option.toList, List.cons_append, List.nil_append]
  refine x_icmp_same (pc := 1194) hC 1271 dL_law_1194 (by decide) rfl ?_
  exact kk T2 N2 I2 R2 z2 _ _ (by omega) (by omega) hLP

set_option maxHeartbeats 4000000 in
set_option maxRecDepth 100000 in
theorem lw_c32 {G : ax_G} {f : ax_F} {Q : ax_P} {T : Nat → Nat} {N : Nat → Int} {I : Nat → Int → Int} {R : Nat → Int → Option Nat} {z k n a o b Ls : Nat} {xs : Nat → Int32} {i s : Int} {nm : MethodName} (hC : axC G f (YL nm) RL 11 600000 7302250) (hX : va_X b Ls xs f.2.2.2.1 G.2.2.2.2.2) (hb : b < G.2.2.2.1) (hLs : Ls ≤ 3072) (hi0 : 0 ≤ i) (hi1 : i + 6 ≤ Ls) (LP : axLP G T N I R z a o s) (hs : s ≤ 2000000) (hk : 48 ≤ k) (hn : 528 ≤ n) (kk : ∀ (T2 : Nat → Nat) (N2 : Nat → Int) (I2 : Nat → Int → Int) (R2 : Nat → Int → Option Nat) (z2 k2 n2 : Nat), k ≤ k2 + 48 → n ≤ n2 + 528 → axLP G T2 N2 I2 R2 z2 a o (s + 25) → axX G f 600000 7302250 Q 1271 [vR b, vR a, vR o, vI i] [] T2 N2 I2 R2 z2 k2 n2) : axX G f 600000 7302250 Q 1199 [vR b, vR a, vR o, vI i] [] T N I R z k n := by
  obtain ⟨M, σ, A, w, h, hi, e⟩ := LP
  obtain ⟨v, hv⟩ := pr_tell M h hi e hs (i32_r (xs (i + 1).toNat))
  unfold PRC at hv
  have ta : T a = 11 := fx_ta (rl_fx h)
  refine x_aload_n (pc := 1199) hC dL_law_1199 rfl ?_
  refine x_aload_n (pc := 1200) hC dL_law_1200 rfl ?_
  refine x_iload_n (pc := 1201) hC dL_law_1201 rfl ?_
  refine x_iconst (pc := 1202) hC dL_law_1202 ?_
  refine x_iadd (pc := 1203) hC dL_law_1203 ?_
  refine x_sald (pc := 1204) hC hX hb dL_law_1204 (by omega) (by omega) hLs ?_
  refine x_callV (pc := 1205) hC cv_L_148 dL_law_1205 hv ta rfl (by decide) (by omega) (by omega) rfl rfl (Nat.le_of_ble_eq_true rfl) (fun r1 T1 N1 I1 R1 z1 q => ?_)
  obtain ⟨rfl, to, hm⟩ := q
  dsimp only [Option.toList, List.cons_append, List.nil_append]
  refine x_aload_n (pc := 1208) hC dL_law_1208 rfl ?_
  refine x_aload_n (pc := 1209) hC dL_law_1209 rfl ?_
  refine x_iload_n (pc := 1210) hC dL_law_1210 rfl ?_
  refine x_iconst (pc := 1211) hC dL_law_1211 ?_
  refine x_iadd (pc := 1212) hC dL_law_1212 ?_
  refine x_sald (pc := 1213) hC hX hb dL_law_1213 (by omega) (by omega) hLs ?_
  refine x_callV (pc := 1214) hC cv_L_151 dL_law_1214 hm to rfl (by decide) (Nat.zero_le _) (Nat.zero_le _) rfl rfl (Nat.le_of_ble_eq_true rfl) (fun r2 T2 N2 I2 R2 z2 q => ?_)
  obtain ⟨rfl, hLP⟩ := q
  dsimp only [Option.toList, List.cons_append, List.nil_append]
  refine x_icmp_same (pc := 1217) hC 1271 dL_law_1217 (by decide) rfl ?_
  exact kk T2 N2 I2 R2 z2 _ _ (by omega) (by omega) hLP

set_option maxHeartbeats 4000000 in
set_option maxRecDepth 100000 in
theorem lw_c33 {G : ax_G} {f : ax_F} {Q : ax_P} {T : Nat → Nat} {N : Nat → Int} {I : Nat → Int → Int} {R : Nat → Int → Option Nat} {z k n a o b Ls : Nat} {xs : Nat → Int32} {i s : Int} {nm : MethodName} (hC : axC G f (YL nm) RL 11 600000 7302250) (hX : va_X b Ls xs f.2.2.2.1 G.2.2.2.2.2) (hb : b < G.2.2.2.1) (hLs : Ls ≤ 3072) (hi0 : 0 ≤ i) (hi1 : i + 6 ≤ Ls) (LP : axLP G T N I R z a o s) (hs : s ≤ 2000000) (hk : 48 ≤ k) (hn : 528 ≤ n) (kk : ∀ (T2 : Nat → Nat) (N2 : Nat → Int) (I2 : Nat → Int → Int) (R2 : Nat → Int → Option Nat) (z2 k2 n2 : Nat), k ≤ k2 + 48 → n ≤ n2 + 528 → axLP G T2 N2 I2 R2 z2 a o (s + 25) → axX G f 600000 7302250 Q 1271 [vR b, vR a, vR o, vI i] [] T2 N2 I2 R2 z2 k2 n2) : axX G f 600000 7302250 Q 1222 [vR b, vR a, vR o, vI i] [] T N I R z k n := by
  obtain ⟨M, σ, A, w, h, hi, e⟩ := LP
  obtain ⟨v, hv⟩ := pr_trace M h hi e hs 
  unfold PRC at hv
  have ta : T a = 11 := fx_ta (rl_fx h)
  refine x_aload_n (pc := 1222) hC dL_law_1222 rfl ?_
  refine x_callV (pc := 1223) hC cv_L_152 dL_law_1223 hv ta rfl (by decide) (by omega) (by omega) rfl rfl (Nat.le_of_ble_eq_true rfl) (fun r1 T1 N1 I1 R1 z1 q => ?_)
  obtain ⟨rfl, to, hm⟩ := q
  dsimp only [Option.toList, List.cons_append, List.nil_append]
  refine x_aload_n (pc := 1226) hC dL_law_1226 rfl ?_
  refine x_callV (pc := 1227) hC cv_L_155 dL_law_1227 hm to rfl (by decide) (Nat.zero_le _) (Nat.zero_le _) rfl rfl (Nat.le_of_ble_eq_true rfl) (fun r2 T2 N2 I2 R2 z2 q => ?_)
  obtain ⟨rfl, hLP⟩ := q
  dsimp only [Option.toList, List.cons_append, List.nil_append]
  refine x_icmp_same (pc := 1230) hC 1271 dL_law_1230 (by decide) rfl ?_
  exact kk T2 N2 I2 R2 z2 _ _ (by omega) (by omega) hLP

set_option maxHeartbeats 4000000 in
set_option maxRecDepth 100000 in
theorem lw_c34 {G : ax_G} {f : ax_F} {Q : ax_P} {T : Nat → Nat} {N : Nat → Int} {I : Nat → Int → Int} {R : Nat → Int → Option Nat} {z k n a o b Ls : Nat} {xs : Nat → Int32} {i s : Int} {nm : MethodName} (hC : axC G f (YL nm) RL 11 600000 7302250) (hX : va_X b Ls xs f.2.2.2.1 G.2.2.2.2.2) (hb : b < G.2.2.2.1) (hLs : Ls ≤ 3072) (hi0 : 0 ≤ i) (hi1 : i + 6 ≤ Ls) (LP : axLP G T N I R z a o s) (hs : s ≤ 2000000) (hk : 48 ≤ k) (hn : 528 ≤ n) (kk : ∀ (T2 : Nat → Nat) (N2 : Nat → Int) (I2 : Nat → Int → Int) (R2 : Nat → Int → Option Nat) (z2 k2 n2 : Nat), k ≤ k2 + 48 → n ≤ n2 + 528 → axLP G T2 N2 I2 R2 z2 a o (s + 25) → axX G f 600000 7302250 Q 1271 [vR b, vR a, vR o, vI i] [] T2 N2 I2 R2 z2 k2 n2) : axX G f 600000 7302250 Q 1235 [vR b, vR a, vR o, vI i] [] T N I R z k n := by
  obtain ⟨M, σ, A, w, h, hi, e⟩ := LP
  obtain ⟨v, hv⟩ := pr_fault M h hi e hs 
  unfold PRC at hv
  have ta : T a = 11 := fx_ta (rl_fx h)
  refine x_aload_n (pc := 1235) hC dL_law_1235 rfl ?_
  refine x_callV (pc := 1236) hC cv_L_156 dL_law_1236 hv ta rfl (by decide) (by omega) (by omega) rfl rfl (Nat.le_of_ble_eq_true rfl) (fun r1 T1 N1 I1 R1 z1 q => ?_)
  obtain ⟨rfl, to, hm⟩ := q
  dsimp only [Option.toList, List.cons_append, List.nil_append]
  refine x_aload_n (pc := 1239) hC dL_law_1239 rfl ?_
  refine x_callV (pc := 1240) hC cv_L_159 dL_law_1240 hm to rfl (by decide) (Nat.zero_le _) (Nat.zero_le _) rfl rfl (Nat.le_of_ble_eq_true rfl) (fun r2 T2 N2 I2 R2 z2 q => ?_)
  obtain ⟨rfl, hLP⟩ := q
  dsimp only [Option.toList, List.cons_append, List.nil_append]
  refine x_icmp_same (pc := 1243) hC 1271 dL_law_1243 (by decide) rfl ?_
  exact kk T2 N2 I2 R2 z2 _ _ (by omega) (by omega) hLP

set_option maxHeartbeats 4000000 in
set_option maxRecDepth 100000 in
theorem lw_c35 {G : ax_G} {f : ax_F} {Q : ax_P} {T : Nat → Nat} {N : Nat → Int} {I : Nat → Int → Int} {R : Nat → Int → Option Nat} {z k n a o b Ls : Nat} {xs : Nat → Int32} {i s : Int} {nm : MethodName} (hC : axC G f (YL nm) RL 11 600000 7302250) (hX : va_X b Ls xs f.2.2.2.1 G.2.2.2.2.2) (hb : b < G.2.2.2.1) (hLs : Ls ≤ 3072) (hi0 : 0 ≤ i) (hi1 : i + 6 ≤ Ls) (LP : axLP G T N I R z a o s) (hs : s ≤ 2000000) (hk : 48 ≤ k) (hn : 528 ≤ n) (kk : ∀ (T2 : Nat → Nat) (N2 : Nat → Int) (I2 : Nat → Int → Int) (R2 : Nat → Int → Option Nat) (z2 k2 n2 : Nat), k ≤ k2 + 48 → n ≤ n2 + 528 → axLP G T2 N2 I2 R2 z2 a o (s + 25) → axX G f 600000 7302250 Q 1271 [vR b, vR a, vR o, vI i] [] T2 N2 I2 R2 z2 k2 n2) : axX G f 600000 7302250 Q 1248 [vR b, vR a, vR o, vI i] [] T N I R z k n := by
  obtain ⟨M, σ, A, w, h, hi, e⟩ := LP
  obtain ⟨v, hv⟩ := pr_many M h hi e hs (i32_r (xs (i + 1).toNat))
  unfold PRC at hv
  have ta : T a = 11 := fx_ta (rl_fx h)
  refine x_aload_n (pc := 1248) hC dL_law_1248 rfl ?_
  refine x_aload_n (pc := 1249) hC dL_law_1249 rfl ?_
  refine x_iload_n (pc := 1250) hC dL_law_1250 rfl ?_
  refine x_iconst (pc := 1251) hC dL_law_1251 ?_
  refine x_iadd (pc := 1252) hC dL_law_1252 ?_
  refine x_sald (pc := 1253) hC hX hb dL_law_1253 (by omega) (by omega) hLs ?_
  refine x_callV (pc := 1254) hC cv_L_160 dL_law_1254 hv ta rfl (by decide) (by omega) (by omega) rfl rfl (Nat.le_of_ble_eq_true rfl) (fun r1 T1 N1 I1 R1 z1 q => ?_)
  obtain ⟨rfl, to, hm⟩ := q
  dsimp only [Option.toList, List.cons_append, List.nil_append]
  refine x_aload_n (pc := 1257) hC dL_law_1257 rfl ?_
  refine x_aload_n (pc := 1258) hC dL_law_1258 rfl ?_
  refine x_iload_n (pc := 1259) hC dL_law_1259 rfl ?_
  refine x_iconst (pc := 1260) hC dL_law_1260 ?_
  refine x_iadd (pc := 1261) hC dL_law_1261 ?_
  refine x_sald (pc := 1262) hC hX hb dL_law_1262 (by omega) (by omega) hLs ?_
  refine x_callV (pc := 1263) hC cv_L_163 dL_law_1263 hm to rfl (by decide) (Nat.zero_le _) (Nat.zero_le _) rfl rfl (Nat.le_of_ble_eq_true rfl) (fun r2 T2 N2 I2 R2 z2 q => ?_)
  obtain ⟨rfl, hLP⟩ := q
  dsimp only [Option.toList, List.cons_append, List.nil_append]
  refine x_icmp_same (pc := 1266) hC 1271 dL_law_1266 (by decide) rfl ?_
  exact kk T2 N2 I2 R2 z2 _ _ (by omega) (by omega) hLP

