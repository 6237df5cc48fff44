set_option maxRecDepth 100000 in
set_option maxHeartbeats 4000000 in
theorem cs_food {X : XT} {Γ : Gam} (hX : OKX X Γ cL_law RL 12 438) (b M : Nat) (xs : Nat → Int32) (hB : SB X b M xs) (hM : M ≤ 3072) (i : Nat) (hi : i + 6 ≤ M) (G : GG) (hG : LR G) (K : ∀ G', LR G' → WP X Γ 1379 [some (.ref b), some (.ref (gad Γ 30)), some (.ref (gad Γ 47)), some (.int (nI i))] [] G') : WP X Γ 220 [some (.ref b), some (.ref (gad Γ 30)), some (.ref (gad Γ 47)), some (.int (nI i))] [] G := by
  obtain ⟨μ, κ, B, Z, N, T, n, h⟩ := id hG
  obtain ⟨hC, hM, hV, hSp⟩ := id h.1
  obtain ⟨hS, hSm, hZ⟩ := id h.2.2.1
  obtain ⟨t1, t2, t3, t4⟩ := id h.2.2.2.1
  refine r_aload1 hX dL_law_220 (q := 221) rfl ?_
  refine r_aload0 hX dL_law_221 (q := 222) rfl ?_
  refine r_iload3 hX dL_law_222 (q := 223) rfl ?_
  refine r_iconst hX dL_law_223 (q := 224) rfl (v := nI 1) (by decide +kernel) ?_
  refine r_iadd hX dL_law_224 (q := 225) rfl ?_
  refine r_bld hX hB dL_law_225 (q := 226) rfl (e_add rfl rfl) (by omega) (by omega) ?_
  refine r_aload0 hX dL_law_226 (q := 227) rfl ?_
  refine r_iload3 hX dL_law_227 (q := 228) rfl ?_
  refine r_iconst hX dL_law_228 (q := 229) rfl (v := nI 2) (by decide +kernel) ?_
  refine r_iadd hX dL_law_229 (q := 230) rfl ?_
  refine r_bld hX hB dL_law_230 (q := 231) rfl (e_add rfl rfl) (by omega) (by omega) ?_
  refine r_aload0 hX dL_law_231 (q := 232) rfl ?_
  refine r_iload3 hX dL_law_232 (q := 233) rfl ?_
  refine r_iconst hX dL_law_233 (q := 234) rfl (v := nI 3) (by decide +kernel) ?_
  refine r_iadd hX dL_law_234 (q := 235) rfl ?_
  refine r_bld hX hB dL_law_235 (q := 236) rfl (e_add rfl rfl) (by omega) (by omega) ?_
  refine r_callV hX dL_law_236 (q := 239) rfl (c_X5_food _ Γ _ μ 99999 hC hV _ _ _) kL_13 mlX5_food mvX5_food rfl rfl rfl ⟨by decide, rfl⟩ ⟨by decide, by decide⟩ (Nat.le_of_ble_eq_true rfl) (kpI (fun vA GA pA => ?_))
  have hMa := co_mr pA hM
  refine r_aload2 hX dL_law_239 (q := 240) rfl ?_
  refine r_aload0 hX dL_law_240 (q := 241) rfl ?_
  refine r_iload3 hX dL_law_241 (q := 242) rfl ?_
  refine r_iconst hX dL_law_242 (q := 243) rfl (v := nI 1) (by decide +kernel) ?_
  refine r_iadd hX dL_law_243 (q := 244) rfl ?_
  refine r_bld hX hB dL_law_244 (q := 245) rfl (e_add rfl rfl) (by omega) (by omega) ?_
  refine r_aload0 hX dL_law_245 (q := 246) rfl ?_
  refine r_iload3 hX dL_law_246 (q := 247) rfl ?_
  refine r_iconst hX dL_law_247 (q := 248) rfl (v := nI 2) (by decide +kernel) ?_
  refine r_iadd hX dL_law_248 (q := 249) rfl ?_
  refine r_bld hX hB dL_law_249 (q := 250) rfl (e_add rfl rfl) (by omega) (by omega) ?_
  refine r_aload0 hX dL_law_250 (q := 251) rfl ?_
  refine r_iload3 hX dL_law_251 (q := 252) rfl ?_
  refine r_iconst hX dL_law_252 (q := 253) rfl (v := nI 3) (by decide +kernel) ?_
  refine r_iadd hX dL_law_253 (q := 254) rfl ?_
  refine r_bld hX hB dL_law_254 (q := 255) rfl (e_add rfl rfl) (by omega) (by omega) ?_
  refine r_callV hX dL_law_255 (q := 258) rfl (c_X6_food _ Γ _ μ hMa _ _ _) kL_17 mlX6_food mvX6_food rfl rfl rfl ⟨by decide, rfl⟩ ⟨by decide, by decide⟩ (Nat.le_of_ble_eq_true rfl) (kpI (fun vC GC pC => ?_))
  obtain ⟨hEq, hLR⟩ := lr_o h pA pC (iv_food hV hSp _ _ _)
  first | refine r_icmpN_eq hX dL_law_258 (q := 261) rfl (tgt := 1379) (by decide) (by first | decide | omega) (by first | decide | omega) (fun h258 => ?_) (fun h258 => ?_) | refine r_icmp_eq hX dL_law_258 (q := 261) rfl (tgt := 1379) (by decide) (fun h258 => ?_) (fun h258 => ?_)
  ·
    exact K _ hLR
  ·
    exact absurd hEq h258 --end

set_option maxRecDepth 100000 in
set_option maxHeartbeats 4000000 in
theorem cs_foodOf {X : XT} {Γ : Gam} (hX : OKX X Γ cL_law RL 12 438) (b M : Nat) (xs : Nat → Int32) (hB : SB X b M xs) (hM : M ≤ 3072) (i : Nat) (hi : i + 6 ≤ M) (G : GG) (hG : LR G) (K : ∀ G', LR G' → WP X Γ 1379 [some (.ref b), some (.ref (gad Γ 30)), some (.ref (gad Γ 47)), some (.int (nI i))] [] G') : WP X Γ 263 [some (.ref b), some (.ref (gad Γ 30)), some (.ref (gad Γ 47)), some (.int (nI i))] [] G := by
  obtain ⟨μ, κ, B, Z, N, T, n, h⟩ := id hG
  obtain ⟨hC, hM, hV, hSp⟩ := id h.1
  obtain ⟨hS, hSm, hZ⟩ := id h.2.2.1
  obtain ⟨t1, t2, t3, t4⟩ := id h.2.2.2.1
  refine r_aload1 hX dL_law_263 (q := 264) rfl ?_
  refine r_aload0 hX dL_law_264 (q := 265) rfl ?_
  refine r_iload3 hX dL_law_265 (q := 266) rfl ?_
  refine r_iconst hX dL_law_266 (q := 267) rfl (v := nI 1) (by decide +kernel) ?_
  refine r_iadd hX dL_law_267 (q := 268) rfl ?_
  refine r_bld hX hB dL_law_268 (q := 269) rfl (e_add rfl rfl) (by omega) (by omega) ?_
  refine r_aload0 hX dL_law_269 (q := 270) rfl ?_
  refine r_iload3 hX dL_law_270 (q := 271) rfl ?_
  refine r_iconst hX dL_law_271 (q := 272) rfl (v := nI 2) (by decide +kernel) ?_
  refine r_iadd hX dL_law_272 (q := 273) rfl ?_
  refine r_bld hX hB dL_law_273 (q := 274) rfl (e_add rfl rfl) (by omega) (by omega) ?_
  refine r_callV hX dL_law_274 (q := 277) rfl (c_X5_foodOf _ Γ _ μ 99999 hC hV _ _) kL_18 mlX5_foodOf mvX5_foodOf rfl rfl rfl ⟨by decide, rfl⟩ ⟨by decide, by decide⟩ (Nat.le_of_ble_eq_true rfl) (kpI (fun vA GA pA => ?_))
  have hMa := co_mr pA hM
  refine r_aload2 hX dL_law_277 (q := 278) rfl ?_
  refine r_aload0 hX dL_law_278 (q := 279) rfl ?_
  refine r_iload3 hX dL_law_279 (q := 280) rfl ?_
  refine r_iconst hX dL_law_280 (q := 281) rfl (v := nI 1) (by decide +kernel) ?_
  refine r_iadd hX dL_law_281 (q := 282) rfl ?_
  refine r_bld hX hB dL_law_282 (q := 283) rfl (e_add rfl rfl) (by omega) (by omega) ?_
  refine r_aload0 hX dL_law_283 (q := 284) rfl ?_
  refine r_iload3 hX dL_law_284 (q := 285) rfl ?_
  refine r_iconst hX dL_law_285 (q := 286) rfl (v := nI 2) (by decide +kernel) ?_
  refine r_iadd hX dL_law_286 (q := 287) rfl ?_
  refine r_bld hX hB dL_law_287 (q := 288) rfl (e_add rfl rfl) (by omega) (by omega) ?_
  refine r_callV hX dL_law_288 (q := 291) rfl (c_X6_foodOf _ Γ _ μ hMa _ _) kL_22 mlX6_foodOf mvX6_foodOf rfl rfl rfl ⟨by decide, rfl⟩ ⟨by decide, by decide⟩ (Nat.le_of_ble_eq_true rfl) (kpI (fun vC GC pC => ?_))
  obtain ⟨hEq, hLR⟩ := lr_o h pA pC (iv_foodOf hV hSp _ _)
  first | refine r_icmpN_eq hX dL_law_291 (q := 294) rfl (tgt := 1379) (by decide) (by first | decide | omega) (by first | decide | omega) (fun h291 => ?_) (fun h291 => ?_) | refine r_icmp_eq hX dL_law_291 (q := 294) rfl (tgt := 1379) (by decide) (fun h291 => ?_) (fun h291 => ?_)
  ·
    exact K _ hLR
  ·
    exact absurd hEq h291 --end

set_option maxRecDepth 100000 in
set_option maxHeartbeats 4000000 in
theorem cs_child {X : XT} {Γ : Gam} (hX : OKX X Γ cL_law RL 12 438) (b M : Nat) (xs : Nat → Int32) (hB : SB X b M xs) (hM : M ≤ 3072) (i : Nat) (hi : i + 6 ≤ M) (G : GG) (hG : LR G) (K : ∀ G', LR G' → WP X Γ 1379 [some (.ref b), some (.ref (gad Γ 30)), some (.ref (gad Γ 47)), some (.int (nI i))] [] G') : WP X Γ 296 [some (.ref b), some (.ref (gad Γ 30)), some (.ref (gad Γ 47)), some (.int (nI i))] [] G := by
  obtain ⟨μ, κ, B, Z, N, T, n, h⟩ := id hG
  obtain ⟨hC, hM, hV, hSp⟩ := id h.1
  obtain ⟨hS, hSm, hZ⟩ := id h.2.2.1
  obtain ⟨t1, t2, t3, t4⟩ := id h.2.2.2.1
  refine r_aload1 hX dL_law_296 (q := 297) rfl ?_
  refine r_aload0 hX dL_law_297 (q := 298) rfl ?_
  refine r_iload3 hX dL_law_298 (q := 299) rfl ?_
  refine r_iconst hX dL_law_299 (q := 300) rfl (v := nI 1) (by decide +kernel) ?_
  refine r_iadd hX dL_law_300 (q := 301) rfl ?_
  refine r_bld hX hB dL_law_301 (q := 302) rfl (e_add rfl rfl) (by omega) (by omega) ?_
  refine r_aload0 hX dL_law_302 (q := 303) rfl ?_
  refine r_iload3 hX dL_law_303 (q := 304) rfl ?_
  refine r_iconst hX dL_law_304 (q := 305) rfl (v := nI 2) (by decide +kernel) ?_
  refine r_iadd hX dL_law_305 (q := 306) rfl ?_
  refine r_bld hX hB dL_law_306 (q := 307) rfl (e_add rfl rfl) (by omega) (by omega) ?_
  refine r_callV hX dL_law_307 (q := 310) rfl (c_X5_child _ Γ _ μ 99999 hC hV _ _) kL_23 mlX5_child mvX5_child rfl rfl rfl ⟨by decide, rfl⟩ ⟨by decide, by decide⟩ (Nat.le_of_ble_eq_true rfl) (kpI (fun vA GA pA => ?_))
  have hMa := co_mr pA hM
  refine r_aload2 hX dL_law_310 (q := 311) rfl ?_
  refine r_aload0 hX dL_law_311 (q := 312) rfl ?_
  refine r_iload3 hX dL_law_312 (q := 313) rfl ?_
  refine r_iconst hX dL_law_313 (q := 314) rfl (v := nI 1) (by decide +kernel) ?_
  refine r_iadd hX dL_law_314 (q := 315) rfl ?_
  refine r_bld hX hB dL_law_315 (q := 316) rfl (e_add rfl rfl) (by omega) (by omega) ?_
  refine r_aload0 hX dL_law_316 (q := 317) rfl ?_
  refine r_iload3 hX dL_law_317 (q := 318) rfl ?_
  refine r_iconst hX dL_law_318 (q := 319) rfl (v := nI 2) (by decide +kernel) ?_
  refine r_iadd hX dL_law_319 (q := 320) rfl ?_
  refine r_bld hX hB dL_law_320 (q := 321) rfl (e_add rfl rfl) (by omega) (by omega) ?_
  refine r_callV hX dL_law_321 (q := 324) rfl (c_X6_child _ Γ _ μ hMa _ _) kL_26 mlX6_child mvX6_child rfl rfl rfl ⟨by decide, rfl⟩ ⟨by decide, by decide⟩ (Nat.le_of_ble_eq_true rfl) (kpI (fun vC GC pC => ?_))
  obtain ⟨hEq, hLR⟩ := lr_o h pA pC (iv_child hV hSp _ _)
  first | refine r_icmpN_eq hX dL_law_324 (q := 327) rfl (tgt := 1379) (by decide) (by first | decide | omega) (by first | decide | omega) (fun h324 => ?_) (fun h324 => ?_) | refine r_icmp_eq hX dL_law_324 (q := 327) rfl (tgt := 1379) (by decide) (fun h324 => ?_) (fun h324 => ?_)
  ·
    exact K _ hLR
  ·
    exact absurd hEq h324 --end

set_option maxRecDepth 100000 in
set_option maxHeartbeats 4000000 in
theorem cs_pudding {X : XT} {Γ : Gam} (hX : OKX X Γ cL_law RL 12 438) (b M : Nat) (xs : Nat → Int32) (hB : SB X b M xs) (hM : M ≤ 3072) (i : Nat) (hi : i + 6 ≤ M) (G : GG) (hG : LR G) (K : ∀ G', LR G' → WP X Γ 1379 [some (.ref b), some (.ref (gad Γ 30)), some (.ref (gad Γ 47)), some (.int (nI i))] [] G') : WP X Γ 329 [some (.ref b), some (.ref (gad Γ 30)), some (.ref (gad Γ 47)), some (.int (nI i))] [] G := by
  obtain ⟨μ, κ, B, Z, N, T, n, h⟩ := id hG
  obtain ⟨hC, hM, hV, hSp⟩ := id h.1
  obtain ⟨hS, hSm, hZ⟩ := id h.2.2.1
  obtain ⟨t1, t2, t3, t4⟩ := id h.2.2.2.1
  refine r_aload1 hX dL_law_329 (q := 330) rfl ?_
  refine r_aload0 hX dL_law_330 (q := 331) rfl ?_
  refine r_iload3 hX dL_law_331 (q := 332) rfl ?_
  refine r_iconst hX dL_law_332 (q := 333) rfl (v := nI 1) (by decide +kernel) ?_
  refine r_iadd hX dL_law_333 (q := 334) rfl ?_
  refine r_bld hX hB dL_law_334 (q := 335) rfl (e_add rfl rfl) (by omega) (by omega) ?_
  refine r_callV hX dL_law_335 (q := 338) rfl (c_X5_pudding _ Γ _ μ 99999 hC hV _) kL_27 mlX5_pudding mvX5_pudding rfl rfl rfl ⟨by decide, rfl⟩ ⟨by decide, by decide⟩ (Nat.le_of_ble_eq_true rfl) (kpI (fun vA GA pA => ?_))
  have hMa := co_mr pA hM
  refine r_aload2 hX dL_law_338 (q := 339) rfl ?_
  refine r_aload0 hX dL_law_339 (q := 340) rfl ?_
  refine r_iload3 hX dL_law_340 (q := 341) rfl ?_
  refine r_iconst hX dL_law_341 (q := 342) rfl (v := nI 1) (by decide +kernel) ?_
  refine r_iadd hX dL_law_342 (q := 343) rfl ?_
  refine r_bld hX hB dL_law_343 (q := 344) rfl (e_add rfl rfl) (by omega) (by omega) ?_
  refine r_callV hX dL_law_344 (q := 347) rfl (c_X6_pudding _ Γ _ μ hMa _) kL_31 mlX6_pudding mvX6_pudding rfl rfl rfl ⟨by decide, rfl⟩ ⟨by decide, by decide⟩ (Nat.le_of_ble_eq_true rfl) (kpI (fun vC GC pC => ?_))
  obtain ⟨hEq, hLR⟩ := lr_o h pA pC (iv_pud hV hSp _)
  first | refine r_icmpN_eq hX dL_law_347 (q := 350) rfl (tgt := 1379) (by decide) (by first | decide | omega) (by first | decide | omega) (fun h347 => ?_) (fun h347 => ?_) | refine r_icmp_eq hX dL_law_347 (q := 350) rfl (tgt := 1379) (by decide) (fun h347 => ?_) (fun h347 => ?_)
  ·
    exact K _ hLR
  ·
    exact absurd hEq h347 --end

set_option maxRecDepth 100000 in
set_option maxHeartbeats 4000000 in
theorem cs_friend {X : XT} {Γ : Gam} (hX : OKX X Γ cL_law RL 12 438) (b M : Nat) (xs : Nat → Int32) (hB : SB X b M xs) (hM : M ≤ 3072) (i : Nat) (hi : i + 6 ≤ M) (G : GG) (hG : LR G) (K : ∀ G', LR G' → WP X Γ 1379 [some (.ref b), some (.ref (gad Γ 30)), some (.ref (gad Γ 47)), some (.int (nI i))] [] G') : WP X Γ 352 [some (.ref b), some (.ref (gad Γ 30)), some (.ref (gad Γ 47)), some (.int (nI i))] [] G := by
  obtain ⟨μ, κ, B, Z, N, T, n, h⟩ := id hG
  obtain ⟨hC, hM, hV, hSp⟩ := id h.1
  obtain ⟨hS, hSm, hZ⟩ := id h.2.2.1
  obtain ⟨t1, t2, t3, t4⟩ := id h.2.2.2.1
  refine r_aload1 hX dL_law_352 (q := 353) rfl ?_
  refine r_aload0 hX dL_law_353 (q := 354) rfl ?_
  refine r_iload3 hX dL_law_354 (q := 355) rfl ?_
  refine r_iconst hX dL_law_355 (q := 356) rfl (v := nI 1) (by decide +kernel) ?_
  refine r_iadd hX dL_law_356 (q := 357) rfl ?_
  refine r_bld hX hB dL_law_357 (q := 358) rfl (e_add rfl rfl) (by omega) (by omega) ?_
  refine r_callV hX dL_law_358 (q := 361) rfl (c_X5_friend _ Γ _ μ 99999 hC hV _) kL_32 mlX5_friend mvX5_friend rfl rfl rfl ⟨by decide, rfl⟩ ⟨by decide, by decide⟩ (Nat.le_of_ble_eq_true rfl) (kpI (fun vA GA pA => ?_))
  have hMa := co_mr pA hM
  refine r_aload2 hX dL_law_361 (q := 362) rfl ?_
  refine r_aload0 hX dL_law_362 (q := 363) rfl ?_
  refine r_iload3 hX dL_law_363 (q := 364) rfl ?_
  refine r_iconst hX dL_law_364 (q := 365) rfl (v := nI 1) (by decide +kernel) ?_
  refine r_iadd hX dL_law_365 (q := 366) rfl ?_
  refine r_bld hX hB dL_law_366 (q := 367) rfl (e_add rfl rfl) (by omega) (by omega) ?_
  refine r_callV hX dL_law_367 (q := 370) rfl (c_X6_friend _ Γ _ μ hMa _) kL_35 mlX6_friend mvX6_friend rfl rfl rfl ⟨by decide, rfl⟩ ⟨by decide, by decide⟩ (Nat.le_of_ble_eq_true rfl) (kpI (fun vC GC pC => ?_))
  obtain ⟨hEq, hLR⟩ := lr_o h pA pC (iv_fri hV hSp _)
  first | refine r_icmpN_eq hX dL_law_370 (q := 373) rfl (tgt := 1379) (by decide) (by first | decide | omega) (by first | decide | omega) (fun h370 => ?_) (fun h370 => ?_) | refine r_icmp_eq hX dL_law_370 (q := 373) rfl (tgt := 1379) (by decide) (fun h370 => ?_) (fun h370 => ?_)
  ·
    exact K _ hLR
  ·
    exact absurd hEq h370 --end

set_option maxRecDepth 100000 in
set_option maxHeartbeats 4000000 in
theorem cs_liked {X : XT} {Γ : Gam} (hX : OKX X Γ cL_law RL 12 438) (b M : Nat) (xs : Nat → Int32) (hB : SB X b M xs) (hM : M ≤ 3072) (i : Nat) (hi : i + 6 ≤ M) (G : GG) (hG : LR G) (K : ∀ G', LR G' → WP X Γ 1379 [some (.ref b), some (.ref (gad Γ 30)), some (.ref (gad Γ 47)), some (.int (nI i))] [] G') : WP X Γ 375 [some (.ref b), some (.ref (gad Γ 30)), some (.ref (gad Γ 47)), some (.int (nI i))] [] G := by
  obtain ⟨μ, κ, B, Z, N, T, n, h⟩ := id hG
  obtain ⟨hC, hM, hV, hSp⟩ := id h.1
  obtain ⟨hS, hSm, hZ⟩ := id h.2.2.1
  obtain ⟨t1, t2, t3, t4⟩ := id h.2.2.2.1
  refine r_aload1 hX dL_law_375 (q := 376) rfl ?_
  refine r_callV hX dL_law_376 (q := 379) rfl (c_X5_liked _ Γ _ μ 99999 hC hV) kL_36 mlX5_liked mvX5_liked rfl rfl rfl ⟨by decide, rfl⟩ ⟨by decide, by decide⟩ (Nat.le_of_ble_eq_true rfl) (kpI (fun vA GA pA => ?_))
  have hMa := co_mr pA hM
  refine r_aload2 hX dL_law_379 (q := 380) rfl ?_
  refine r_callV hX dL_law_380 (q := 383) rfl (c_X6_liked _ Γ _ μ hMa) kL_40 mlX6_liked mvX6_liked rfl rfl rfl ⟨by decide, rfl⟩ ⟨by decide, by decide⟩ (Nat.le_of_ble_eq_true rfl) (keI ?_)
  obtain ⟨hEq, hLR⟩ := lr_o (y := lsF μ 10) h pA (MOut.ok rfl rfl hMa FrM.rf) (iv_liked hV hSp)
  first | refine r_icmpN_eq hX dL_law_383 (q := 386) rfl (tgt := 1379) (by decide) (by first | decide | omega) (by first | decide | omega) (fun h383 => ?_) (fun h383 => ?_) | refine r_icmp_eq hX dL_law_383 (q := 386) rfl (tgt := 1379) (by decide) (fun h383 => ?_) (fun h383 => ?_)
  ·
    exact K _ hLR
  ·
    exact absurd hEq h383 --end

set_option maxRecDepth 100000 in
set_option maxHeartbeats 4000000 in
theorem cs_next {X : XT} {Γ : Gam} (hX : OKX X Γ cL_law RL 12 438) (b M : Nat) (xs : Nat → Int32) (hB : SB X b M xs) (hM : M ≤ 3072) (i : Nat) (hi : i + 6 ≤ M) (G : GG) (hG : LR G) (K : ∀ G', LR G' → WP X Γ 1379 [some (.ref b), some (.ref (gad Γ 30)), some (.ref (gad Γ 47)), some (.int (nI i))] [] G') : WP X Γ 388 [some (.ref b), some (.ref (gad Γ 30)), some (.ref (gad Γ 47)), some (.int (nI i))] [] G := by
  obtain ⟨μ, κ, B, Z, N, T, n, h⟩ := id hG
  obtain ⟨hC, hM, hV, hSp⟩ := id h.1
  obtain ⟨hS, hSm, hZ⟩ := id h.2.2.1
  obtain ⟨t1, t2, t3, t4⟩ := id h.2.2.2.1
  refine r_aload1 hX dL_law_388 (q := 389) rfl ?_
  refine r_callV hX dL_law_389 (q := 392) rfl (c_X5_next _ Γ _ μ 99999 hC hV) kL_41 mlX5_next mvX5_next rfl rfl rfl ⟨by decide, rfl⟩ ⟨by decide, by decide⟩ (Nat.le_of_ble_eq_true rfl) (kpI (fun vA GA pA => ?_))
  have hMa := co_mr pA hM
  refine r_aload2 hX dL_law_392 (q := 393) rfl ?_
  refine r_callV hX dL_law_393 (q := 396) rfl (c_X6_next _ Γ _ μ hMa) kL_44 mlX6_next mvX6_next rfl rfl rfl ⟨by decide, rfl⟩ ⟨by decide, by decide⟩ (Nat.le_of_ble_eq_true rfl) (kpI (fun vC GC pC => ?_))
  obtain ⟨hEq, hLR⟩ := lr_o h pA pC (iv_next hV hSp)
  first | refine r_icmpN_eq hX dL_law_396 (q := 399) rfl (tgt := 1379) (by decide) (by first | decide | omega) (by first | decide | omega) (fun h396 => ?_) (fun h396 => ?_) | refine r_icmp_eq hX dL_law_396 (q := 399) rfl (tgt := 1379) (by decide) (fun h396 => ?_) (fun h396 => ?_)
  ·
    exact K _ hLR
  ·
    exact absurd hEq h396 --end

set_option maxRecDepth 100000 in
set_option maxHeartbeats 4000000 in
theorem cs_taste {X : XT} {Γ : Gam} (hX : OKX X Γ cL_law RL 12 438) (b M : Nat) (xs : Nat → Int32) (hB : SB X b M xs) (hM : M ≤ 3072) (i : Nat) (hi : i + 6 ≤ M) (G : GG) (hG : LR G) (K : ∀ G', LR G' → WP X Γ 1379 [some (.ref b), some (.ref (gad Γ 30)), some (.ref (gad Γ 47)), some (.int (nI i))] [] G') : WP X Γ 401 [some (.ref b), some (.ref (gad Γ 30)), some (.ref (gad Γ 47)), some (.int (nI i))] [] G := by
  obtain ⟨μ, κ, B, Z, N, T, n, h⟩ := id hG
  obtain ⟨hC, hM, hV, hSp⟩ := id h.1
  obtain ⟨hS, hSm, hZ⟩ := id h.2.2.1
  obtain ⟨t1, t2, t3, t4⟩ := id h.2.2.2.1
  refine r_aload1 hX dL_law_401 (q := 402) rfl ?_
  refine r_aload0 hX dL_law_402 (q := 403) rfl ?_
  refine r_iload3 hX dL_law_403 (q := 404) rfl ?_
  refine r_iconst hX dL_law_404 (q := 405) rfl (v := nI 1) (by decide +kernel) ?_
  refine r_iadd hX dL_law_405 (q := 406) rfl ?_
  refine r_bld hX hB dL_law_406 (q := 407) rfl (e_add rfl rfl) (by omega) (by omega) ?_
  refine r_aload0 hX dL_law_407 (q := 408) rfl ?_
  refine r_iload3 hX dL_law_408 (q := 409) rfl ?_
  refine r_iconst hX dL_law_409 (q := 410) rfl (v := nI 2) (by decide +kernel) ?_
  refine r_iadd hX dL_law_410 (q := 411) rfl ?_
  refine r_bld hX hB dL_law_411 (q := 412) rfl (e_add rfl rfl) (by omega) (by omega) ?_
  refine r_aload0 hX dL_law_412 (q := 413) rfl ?_
  refine r_iload3 hX dL_law_413 (q := 414) rfl ?_
  refine r_iconst hX dL_law_414 (q := 415) rfl (v := nI 3) (by decide +kernel) ?_
  refine r_iadd hX dL_law_415 (q := 416) rfl ?_
  refine r_bld hX hB dL_law_416 (q := 417) rfl (e_add rfl rfl) (by omega) (by omega) ?_
  refine r_callV hX dL_law_417 (q := 420) rfl (c_X5_taste _ Γ _ μ 99999 hC hV _ _ _) kL_45 mlX5_taste mvX5_taste rfl rfl rfl ⟨by decide, rfl⟩ ⟨by decide, by decide⟩ (Nat.le_of_ble_eq_true rfl) (kpI (fun vA GA pA => ?_))
  have hMa := co_mr pA hM
  refine r_aload2 hX dL_law_420 (q := 421) rfl ?_
  refine r_aload0 hX dL_law_421 (q := 422) rfl ?_
  refine r_iload3 hX dL_law_422 (q := 423) rfl ?_
  refine r_iconst hX dL_law_423 (q := 424) rfl (v := nI 1) (by decide +kernel) ?_
  refine r_iadd hX dL_law_424 (q := 425) rfl ?_
  refine r_bld hX hB dL_law_425 (q := 426) rfl (e_add rfl rfl) (by omega) (by omega) ?_
  refine r_aload0 hX dL_law_426 (q := 427) rfl ?_
  refine r_iload3 hX dL_law_427 (q := 428) rfl ?_
  refine r_iconst hX dL_law_428 (q := 429) rfl (v := nI 2) (by decide +kernel) ?_
  refine r_iadd hX dL_law_429 (q := 430) rfl ?_
  refine r_bld hX hB dL_law_430 (q := 431) rfl (e_add rfl rfl) (by omega) (by omega) ?_
  refine r_aload0 hX dL_law_431 (q := 432) rfl ?_
  refine r_iload3 hX dL_law_432 (q := 433) rfl ?_
  refine r_iconst hX dL_law_433 (q := 434) rfl (v := nI 3) (by decide +kernel) ?_
  refine r_iadd hX dL_law_434 (q := 435) rfl ?_
  refine r_bld hX hB dL_law_435 (q := 436) rfl (e_add rfl rfl) (by omega) (by omega) ?_
  refine r_callV hX dL_law_436 (q := 439) rfl (c_X6_taste _ Γ _ μ hMa 99999 hV _ _ _) kL_48 mlX6_taste mvX6_taste rfl rfl rfl ⟨by decide, rfl⟩ ⟨by decide, by decide⟩ (Nat.le_of_ble_eq_true rfl) (kpI (fun vC GC pC => ?_))
  obtain ⟨hEq, hLR⟩ := lr_o h pA pC (iv_taste hV hSp _ _ _)
  first | refine r_icmpN_eq hX dL_law_439 (q := 442) rfl (tgt := 1379) (by decide) (by first | decide | omega) (by first | decide | omega) (fun h439 => ?_) (fun h439 => ?_) | refine r_icmp_eq hX dL_law_439 (q := 442) rfl (tgt := 1379) (by decide) (fun h439 => ?_) (fun h439 => ?_)
  ·
    exact K _ hLR
  ·
    exact absurd hEq h439 --end

set_option maxRecDepth 100000 in
set_option maxHeartbeats 4000000 in
theorem cs_tasteOf {X : XT} {Γ : Gam} (hX : OKX X Γ cL_law RL 12 438) (b M : Nat) (xs : Nat → Int32) (hB : SB X b M xs) (hM : M ≤ 3072) (i : Nat) (hi : i + 6 ≤ M) (G : GG) (hG : LR G) (K : ∀ G', LR G' → WP X Γ 1379 [some (.ref b), some (.ref (gad Γ 30)), some (.ref (gad Γ 47)), some (.int (nI i))] [] G') : WP X Γ 444 [some (.ref b), some (.ref (gad Γ 30)), some (.ref (gad Γ 47)), some (.int (nI i))] [] G := by
  obtain ⟨μ, κ, B, Z, N, T, n, h⟩ := id hG
  obtain ⟨hC, hM, hV, hSp⟩ := id h.1
  obtain ⟨hS, hSm, hZ⟩ := id h.2.2.1
  obtain ⟨t1, t2, t3, t4⟩ := id h.2.2.2.1
  refine r_aload1 hX dL_law_444 (q := 445) rfl ?_
  refine r_aload0 hX dL_law_445 (q := 446) rfl ?_
  refine r_iload3 hX dL_law_446 (q := 447) rfl ?_
  refine r_iconst hX dL_law_447 (q := 448) rfl (v := nI 1) (by decide +kernel) ?_
  refine r_iadd hX dL_law_448 (q := 449) rfl ?_
  refine r_bld hX hB dL_law_449 (q := 450) rfl (e_add rfl rfl) (by omega) (by omega) ?_
  refine r_aload0 hX dL_law_450 (q := 451) rfl ?_
  refine r_iload3 hX dL_law_451 (q := 452) rfl ?_
  refine r_iconst hX dL_law_452 (q := 453) rfl (v := nI 2) (by decide +kernel) ?_
  refine r_iadd hX dL_law_453 (q := 454) rfl ?_
  refine r_bld hX hB dL_law_454 (q := 455) rfl (e_add rfl rfl) (by omega) (by omega) ?_
  refine r_callV hX dL_law_455 (q := 458) rfl (c_X5_tasteOf _ Γ _ μ 99999 hC hV _ _) kL_49 mlX5_tasteOf mvX5_tasteOf rfl rfl rfl ⟨by decide, rfl⟩ ⟨by decide, by decide⟩ (Nat.le_of_ble_eq_true rfl) (kpI (fun vA GA pA => ?_))
  have hMa := co_mr pA hM
  refine r_aload2 hX dL_law_458 (q := 459) rfl ?_
  refine r_aload0 hX dL_law_459 (q := 460) rfl ?_
  refine r_iload3 hX dL_law_460 (q := 461) rfl ?_
  refine r_iconst hX dL_law_461 (q := 462) rfl (v := nI 1) (by decide +kernel) ?_
  refine r_iadd hX dL_law_462 (q := 463) rfl ?_
  refine r_bld hX hB dL_law_463 (q := 464) rfl (e_add rfl rfl) (by omega) (by omega) ?_
  refine r_aload0 hX dL_law_464 (q := 465) rfl ?_
  refine r_iload3 hX dL_law_465 (q := 466) rfl ?_
  refine r_iconst hX dL_law_466 (q := 467) rfl (v := nI 2) (by decide +kernel) ?_
  refine r_iadd hX dL_law_467 (q := 468) rfl ?_
  refine r_bld hX hB dL_law_468 (q := 469) rfl (e_add rfl rfl) (by omega) (by omega) ?_
  refine r_callV hX dL_law_469 (q := 472) rfl (c_X6_tasteOf _ Γ _ μ hMa 99999 hV _ _) kL_52 mlX6_tasteOf mvX6_tasteOf rfl rfl rfl ⟨by decide, rfl⟩ ⟨by decide, by decide⟩ (Nat.le_of_ble_eq_true rfl) (kpI (fun vC GC pC => ?_))
  obtain ⟨hEq, hLR⟩ := lr_o h pA pC (iv_tasteOf hV hSp _ _)
  first | refine r_icmpN_eq hX dL_law_472 (q := 475) rfl (tgt := 1379) (by decide) (by first | decide | omega) (by first | decide | omega) (fun h472 => ?_) (fun h472 => ?_) | refine r_icmp_eq hX dL_law_472 (q := 475) rfl (tgt := 1379) (by decide) (fun h472 => ?_) (fun h472 => ?_)
  ·
    exact K _ hLR
  ·
    exact absurd hEq h472 --end

set_option maxRecDepth 100000 in
set_option maxHeartbeats 4000000 in
theorem cs_change {X : XT} {Γ : Gam} (hX : OKX X Γ cL_law RL 12 438) (b M : Nat) (xs : Nat → Int32) (hB : SB X b M xs) (hM : M ≤ 3072) (i : Nat) (hi : i + 6 ≤ M) (G : GG) (hG : LR G) (K : ∀ G', LR G' → WP X Γ 1379 [some (.ref b), some (.ref (gad Γ 30)), some (.ref (gad Γ 47)), some (.int (nI i))] [] G') : WP X Γ 477 [some (.ref b), some (.ref (gad Γ 30)), some (.ref (gad Γ 47)), some (.int (nI i))] [] G := by
  obtain ⟨μ, κ, B, Z, N, T, n, h⟩ := id hG
  obtain ⟨hC, hM, hV, hSp⟩ := id h.1
  obtain ⟨hS, hSm, hZ⟩ := id h.2.2.1
  obtain ⟨t1, t2, t3, t4⟩ := id h.2.2.2.1
  refine r_aload1 hX dL_law_477 (q := 478) rfl ?_
  refine r_aload0 hX dL_law_478 (q := 479) rfl ?_
  refine r_iload3 hX dL_law_479 (q := 480) rfl ?_
  refine r_iconst hX dL_law_480 (q := 481) rfl (v := nI 1) (by decide +kernel) ?_
  refine r_iadd hX dL_law_481 (q := 482) rfl ?_
  refine r_bld hX hB dL_law_482 (q := 483) rfl (e_add rfl rfl) (by omega) (by omega) ?_
  refine r_aload0 hX dL_law_483 (q := 484) rfl ?_
  refine r_iload3 hX dL_law_484 (q := 485) rfl ?_
  refine r_iconst hX dL_law_485 (q := 486) rfl (v := nI 2) (by decide +kernel) ?_
  refine r_iadd hX dL_law_486 (q := 487) rfl ?_
  refine r_bld hX hB dL_law_487 (q := 488) rfl (e_add rfl rfl) (by omega) (by omega) ?_
  refine r_aload0 hX dL_law_488 (q := 489) rfl ?_
  refine r_iload3 hX dL_law_489 (q := 490) rfl ?_
  refine r_iconst hX dL_law_490 (q := 491) rfl (v := nI 3) (by decide +kernel) ?_
  refine r_iadd hX dL_law_491 (q := 492) rfl ?_
  refine r_bld hX hB dL_law_492 (q := 493) rfl (e_add rfl rfl) (by omega) (by omega) ?_
  refine r_callV hX dL_law_493 (q := 496) rfl (c_X5_change _ Γ _ μ 99999 hC hV _ _ _) kL_53 mlX5_change mvX5_change rfl rfl rfl ⟨by decide, rfl⟩ ⟨by decide, by decide⟩ (Nat.le_of_ble_eq_true rfl) (kpI (fun vA GA pA => ?_))
  have hMa := co_mr pA hM
  refine r_aload2 hX dL_law_496 (q := 497) rfl ?_
  refine r_aload0 hX dL_law_497 (q := 498) rfl ?_
  refine r_iload3 hX dL_law_498 (q := 499) rfl ?_
  refine r_iconst hX dL_law_499 (q := 500) rfl (v := nI 1) (by decide +kernel) ?_
  refine r_iadd hX dL_law_500 (q := 501) rfl ?_
  refine r_bld hX hB dL_law_501 (q := 502) rfl (e_add rfl rfl) (by omega) (by omega) ?_
  refine r_aload0 hX dL_law_502 (q := 503) rfl ?_
  refine r_iload3 hX dL_law_503 (q := 504) rfl ?_
  refine r_iconst hX dL_law_504 (q := 505) rfl (v := nI 2) (by decide +kernel) ?_
  refine r_iadd hX dL_law_505 (q := 506) rfl ?_
  refine r_bld hX hB dL_law_506 (q := 507) rfl (e_add rfl rfl) (by omega) (by omega) ?_
  refine r_aload0 hX dL_law_507 (q := 508) rfl ?_
  refine r_iload3 hX dL_law_508 (q := 509) rfl ?_
  refine r_iconst hX dL_law_509 (q := 510) rfl (v := nI 3) (by decide +kernel) ?_
  refine r_iadd hX dL_law_510 (q := 511) rfl ?_
  refine r_bld hX hB dL_law_511 (q := 512) rfl (e_add rfl rfl) (by omega) (by omega) ?_
  refine r_callV hX dL_law_512 (q := 515) rfl (c_X6_change _ Γ _ μ hMa 99999 hV _ _ _) kL_56 mlX6_change mvX6_change rfl rfl rfl ⟨by decide, rfl⟩ ⟨by decide, by decide⟩ (Nat.le_of_ble_eq_true rfl) (kpI (fun vC GC pC => ?_))
  obtain ⟨hEq, hLR⟩ := lr_o h pA pC (iv_change hV hSp _ _ _)
  first | refine r_icmpN_eq hX dL_law_515 (q := 518) rfl (tgt := 1379) (by decide) (by first | decide | omega) (by first | decide | omega) (fun h515 => ?_) (fun h515 => ?_) | refine r_icmp_eq hX dL_law_515 (q := 518) rfl (tgt := 1379) (by decide) (fun h515 => ?_) (fun h515 => ?_)
  ·
    exact K _ hLR
  ·
    exact absurd hEq h515 --end

set_option maxRecDepth 100000 in
set_option maxHeartbeats 4000000 in
theorem cs_swap {X : XT} {Γ : Gam} (hX : OKX X Γ cL_law RL 12 438) (b M : Nat) (xs : Nat → Int32) (hB : SB X b M xs) (hM : M ≤ 3072) (i : Nat) (hi : i + 6 ≤ M) (G : GG) (hG : LR G) (K : ∀ G', LR G' → WP X Γ 1379 [some (.ref b), some (.ref (gad Γ 30)), some (.ref (gad Γ 47)), some (.int (nI i))] [] G') : WP X Γ 520 [some (.ref b), some (.ref (gad Γ 30)), some (.ref (gad Γ 47)), some (.int (nI i))] [] G := by
  obtain ⟨μ, κ, B, Z, N, T, n, h⟩ := id hG
  obtain ⟨hC, hM, hV, hSp⟩ := id h.1
  obtain ⟨hS, hSm, hZ⟩ := id h.2.2.1
  obtain ⟨t1, t2, t3, t4⟩ := id h.2.2.2.1
  refine r_aload1 hX dL_law_520 (q := 521) rfl ?_
  refine r_aload0 hX dL_law_521 (q := 522) rfl ?_
  refine r_iload3 hX dL_law_522 (q := 523) rfl ?_
  refine r_iconst hX dL_law_523 (q := 524) rfl (v := nI 1) (by decide +kernel) ?_
  refine r_iadd hX dL_law_524 (q := 525) rfl ?_
  refine r_bld hX hB dL_law_525 (q := 526) rfl (e_add rfl rfl) (by omega) (by omega) ?_
  refine r_aload0 hX dL_law_526 (q := 527) rfl ?_
  refine r_iload3 hX dL_law_527 (q := 528) rfl ?_
  refine r_iconst hX dL_law_528 (q := 529) rfl (v := nI 2) (by decide +kernel) ?_
  refine r_iadd hX dL_law_529 (q := 530) rfl ?_
  refine r_bld hX hB dL_law_530 (q := 531) rfl (e_add rfl rfl) (by omega) (by omega) ?_
  refine r_callV hX dL_law_531 (q := 534) rfl (c_X5_swap _ Γ _ μ 99999 hC hV _ _) kL_57 mlX5_swap mvX5_swap rfl rfl rfl ⟨by decide, rfl⟩ ⟨by decide, by decide⟩ (Nat.le_of_ble_eq_true rfl) (kpI (fun vA GA pA => ?_))
  have hMa := co_mr pA hM
  refine r_aload2 hX dL_law_534 (q := 535) rfl ?_
  refine r_aload0 hX dL_law_535 (q := 536) rfl ?_
  refine r_iload3 hX dL_law_536 (q := 537) rfl ?_
  refine r_iconst hX dL_law_537 (q := 538) rfl (v := nI 1) (by decide +kernel) ?_
  refine r_iadd hX dL_law_538 (q := 539) rfl ?_
  refine r_bld hX hB dL_law_539 (q := 540) rfl (e_add rfl rfl) (by omega) (by omega) ?_
  refine r_aload0 hX dL_law_540 (q := 541) rfl ?_
  refine r_iload3 hX dL_law_541 (q := 542) rfl ?_
  refine r_iconst hX dL_law_542 (q := 543) rfl (v := nI 2) (by decide +kernel) ?_
  refine r_iadd hX dL_law_543 (q := 544) rfl ?_
  refine r_bld hX hB dL_law_544 (q := 545) rfl (e_add rfl rfl) (by omega) (by omega) ?_
  refine r_callV hX dL_law_545 (q := 548) rfl (c_X6_swap _ Γ _ μ hMa 99999 hV _ _) kL_60 mlX6_swap mvX6_swap rfl rfl rfl ⟨by decide, rfl⟩ ⟨by decide, by decide⟩ (Nat.le_of_ble_eq_true rfl) (kpI (fun vC GC pC => ?_))
  obtain ⟨hEq, hLR⟩ := lr_o h pA pC (iv_swap hV hSp _ _)
  first | refine r_icmpN_eq hX dL_law_548 (q := 551) rfl (tgt := 1379) (by decide) (by first | decide | omega) (by first | decide | omega) (fun h548 => ?_) (fun h548 => ?_) | refine r_icmp_eq hX dL_law_548 (q := 551) rfl (tgt := 1379) (by decide) (fun h548 => ?_) (fun h548 => ?_)
  ·
    exact K _ hLR
  ·
    exact absurd hEq h548 --end
