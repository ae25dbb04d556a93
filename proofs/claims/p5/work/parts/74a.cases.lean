set_option maxRecDepth 100000 in
set_option maxHeartbeats 1000000 in
theorem lw_c0 {w : sg_W} {Q : sg_O → sg_H → Prop} {h : sg_H} (g : sg_G w) (nc : jk_C w) (hJ : jz w) {d mc ms : Nat} (hd : 30 ≤ d) {B M O S j k n : Nat} {xs : List Int} {A : fa_A} (jJ : jk_J w B M O S xs h A) (hj : 6 * j + 6 ≤ xs.length) (hl : xs.length ≤ 3072) (hk : k + 1030 ≤ mc) (hn : n + (48 + 1800) ≤ ms) (K : ∀ (h' : sg_H) (k' n' : Nat) (A' : fa_A), jk_J w B M O S xs h' A' → k' ≤ k + 1030 → n' ≤ n + (48 + 1800) → sg_R w mi_L_law d mc ms Q 2465 [(0, sg_r S), (1, sg_r B), (2, sg_r M), (3, sg_r O), (4, sg_i (6 * (j : Int)))] [] h' k' n') : sg_R w mi_L_law d mc ms Q 292 [(0, sg_r S), (1, sg_r B), (2, sg_r M), (3, sg_r O), (4, sg_i (6 * (j : Int)))] [] h k n := by
  obtain ⟨p1, e1⟩ : ∃ p, xs.getD (6 * (j : Int) + 1).toNat 0 = p := ⟨_, rfl⟩
  obtain ⟨p2, e2⟩ : ∃ p, xs.getD (6 * (j : Int) + 2).toNat 0 = p := ⟨_, rfl⟩
  obtain ⟨p3, e3⟩ : ∃ p, xs.getD (6 * (j : Int) + 3).toNat 0 = p := ⟨_, rfl⟩
  obtain ⟨p4, e4⟩ : ∃ p, xs.getD (6 * (j : Int) + 4).toNat 0 = p := ⟨_, rfl⟩
  obtain ⟨p5, e5⟩ : ∃ p, xs.getD (6 * (j : Int) + 5).toNat 0 = p := ⟨_, rfl⟩
  refine sg_aload_n (pc := 292) (j := 1) dL_law_292 rfl rfl ?_
  refine sg_aload_n (pc := 293) (j := 0) dL_law_293 rfl rfl ?_
  refine sg_iload (pc := 294) dL_law_294 rfl ?_
  refine sg_iconst (pc := 296) (z := 1) dL_law_296 (by decide) ?_
  first | refine sg_iaddB (pc := 297) dL_law_297 (by omega) (by omega) ?_ | refine sg_iadd (pc := 297) dL_law_297 ?_
  refine sg_iald (pc := 298) dL_law_298 jJ.1.2.2.2.2.2.2.2.2.2 rfl (by omega) (jk_x (by omega) (by omega)) ?_
  try rw [e1]
  try rw [e2]
  try rw [e3]
  try rw [e4]
  try rw [e5]
  refine sg_aload_n (pc := 299) (j := 0) dL_law_299 rfl rfl ?_
  refine sg_iload (pc := 300) dL_law_300 rfl ?_
  refine sg_iconst (pc := 302) (z := 2) dL_law_302 (by decide) ?_
  first | refine sg_iaddB (pc := 303) dL_law_303 (by omega) (by omega) ?_ | refine sg_iadd (pc := 303) dL_law_303 ?_
  refine sg_iald (pc := 304) dL_law_304 jJ.1.2.2.2.2.2.2.2.2.2 rfl (by omega) (jk_x (by omega) (by omega)) ?_
  try rw [e1]
  try rw [e2]
  try rw [e3]
  try rw [e4]
  try rw [e5]
  refine sg_aload_n (pc := 305) (j := 0) dL_law_305 rfl rfl ?_
  refine sg_iload (pc := 306) dL_law_306 rfl ?_
  refine sg_iconst (pc := 308) (z := 3) dL_law_308 (by decide) ?_
  first | refine sg_iaddB (pc := 309) dL_law_309 (by omega) (by omega) ?_ | refine sg_iadd (pc := 309) dL_law_309 ?_
  refine sg_iald (pc := 310) dL_law_310 jJ.1.2.2.2.2.2.2.2.2.2 rfl (by omega) (jk_x (by omega) (by omega)) ?_
  try rw [e1]
  try rw [e2]
  try rw [e3]
  try rw [e4]
  try rw [e5]
  refine sg_aload_n (pc := 311) (j := 0) dL_law_311 rfl rfl ?_
  refine sg_iload (pc := 312) dL_law_312 rfl ?_
  refine sg_iconst (pc := 314) (z := 4) dL_law_314 (by decide) ?_
  first | refine sg_iaddB (pc := 315) dL_law_315 (by omega) (by omega) ?_ | refine sg_iadd (pc := 315) dL_law_315 ?_
  refine sg_iald (pc := 316) dL_law_316 jJ.1.2.2.2.2.2.2.2.2.2 rfl (by omega) (jk_x (by omega) (by omega)) ?_
  try rw [e1]
  try rw [e2]
  try rw [e3]
  try rw [e4]
  try rw [e5]
  refine sg_aload_n (pc := 317) (j := 0) dL_law_317 rfl rfl ?_
  refine sg_iload (pc := 318) dL_law_318 rfl ?_
  refine sg_iconst (pc := 320) (z := 5) dL_law_320 (by decide) ?_
  first | refine sg_iaddB (pc := 321) dL_law_321 (by omega) (by omega) ?_ | refine sg_iadd (pc := 321) dL_law_321 ?_
  refine sg_iald (pc := 322) dL_law_322 jJ.1.2.2.2.2.2.2.2.2.2 rfl (by omega) (jk_x (by omega) (by omega)) ?_
  try rw [e1]
  try rw [e2]
  try rw [e3]
  try rw [e4]
  try rw [e5]
  refine sg_aload_n (pc := 323) (j := 3) dL_law_323 rfl rfl ?_
  obtain ⟨L, hL⟩ : ∃ X, fa_L A p1.toNat = X := ⟨_, rfl⟩
  refine st_cS7 (pc := 324) (d' := d - 1) (mc' := 8) (ms' := 48) g dL_law_324 cb_L_lay cw_L_lay ml_L_190 ms_L_lay (Nat.le_of_ble_eq_true rfl) (by first | exact jl_d0 hd rfl | omega) (by first | exact Nat.le_of_ble_eq_true rfl | omega) (by first | exact Nat.le_of_ble_eq_true rfl | omega) ?_
  refine f_L_lay g nc (by omega) jJ.1 jJ.2.1 jJ.2.2.2 hL (fun v1 h1 I1 X1 k0 k1 k2 k3 x1 r1 => sg_K1 ?_)
  refine sg_istore (pc := 327) dL_law_327 (by decide) ?_
  refine sg_aload_n (pc := 329) (j := 2) dL_law_329 rfl rfl ?_
  refine sg_aload_n (pc := 330) (j := 0) dL_law_330 rfl rfl ?_
  refine sg_iload (pc := 331) dL_law_331 rfl ?_
  refine sg_iconst (pc := 333) (z := 1) dL_law_333 (by decide) ?_
  first | refine sg_iaddB (pc := 334) dL_law_334 (by omega) (by omega) ?_ | refine sg_iadd (pc := 334) dL_law_334 ?_
  refine sg_iald (pc := 335) dL_law_335 I1.2.2.2.2.2.2.2.2.2 rfl (by omega) (jk_x (by omega) (by omega)) ?_
  try rw [e1]
  try rw [e2]
  try rw [e3]
  try rw [e4]
  try rw [e5]
  refine sg_aload_n (pc := 336) (j := 0) dL_law_336 rfl rfl ?_
  refine sg_iload (pc := 337) dL_law_337 rfl ?_
  refine sg_iconst (pc := 339) (z := 2) dL_law_339 (by decide) ?_
  first | refine sg_iaddB (pc := 340) dL_law_340 (by omega) (by omega) ?_ | refine sg_iadd (pc := 340) dL_law_340 ?_
  refine sg_iald (pc := 341) dL_law_341 I1.2.2.2.2.2.2.2.2.2 rfl (by omega) (jk_x (by omega) (by omega)) ?_
  try rw [e1]
  try rw [e2]
  try rw [e3]
  try rw [e4]
  try rw [e5]
  refine sg_aload_n (pc := 342) (j := 0) dL_law_342 rfl rfl ?_
  refine sg_iload (pc := 343) dL_law_343 rfl ?_
  refine sg_iconst (pc := 345) (z := 3) dL_law_345 (by decide) ?_
  first | refine sg_iaddB (pc := 346) dL_law_346 (by omega) (by omega) ?_ | refine sg_iadd (pc := 346) dL_law_346 ?_
  refine sg_iald (pc := 347) dL_law_347 I1.2.2.2.2.2.2.2.2.2 rfl (by omega) (jk_x (by omega) (by omega)) ?_
  try rw [e1]
  try rw [e2]
  try rw [e3]
  try rw [e4]
  try rw [e5]
  refine sg_aload_n (pc := 348) (j := 0) dL_law_348 rfl rfl ?_
  refine sg_iload (pc := 349) dL_law_349 rfl ?_
  refine sg_iconst (pc := 351) (z := 4) dL_law_351 (by decide) ?_
  first | refine sg_iaddB (pc := 352) dL_law_352 (by omega) (by omega) ?_ | refine sg_iadd (pc := 352) dL_law_352 ?_
  refine sg_iald (pc := 353) dL_law_353 I1.2.2.2.2.2.2.2.2.2 rfl (by omega) (jk_x (by omega) (by omega)) ?_
  try rw [e1]
  try rw [e2]
  try rw [e3]
  try rw [e4]
  try rw [e5]
  refine sg_aload_n (pc := 354) (j := 0) dL_law_354 rfl rfl ?_
  refine sg_iload (pc := 355) dL_law_355 rfl ?_
  refine sg_iconst (pc := 357) (z := 5) dL_law_357 (by decide) ?_
  first | refine sg_iaddB (pc := 358) dL_law_358 (by omega) (by omega) ?_ | refine sg_iadd (pc := 358) dL_law_358 ?_
  refine sg_iald (pc := 359) dL_law_359 I1.2.2.2.2.2.2.2.2.2 rfl (by omega) (jk_x (by omega) (by omega)) ?_
  try rw [e1]
  try rw [e2]
  try rw [e3]
  try rw [e4]
  try rw [e5]
  refine st_as (fun H r => jk_tgR (B := B) r) ?_
  have m2 := jk_Im I1
  have ab0 := jk_Jt jJ I1 X1
  refine sg_cE5 (pc := 360) (d' := d - 1) (mc' := 86) (ms' := 1800) 8 g dL_law_360 cb_X7_lay ml_L_195 mn_X7_lay rfl mv_X7_lay (Nat.le_of_ble_eq_true rfl) (md_oc m2) (Nat.le_of_ble_eq_true rfl) (by first | exact jl_d0 hd rfl | omega) (by first | exact Nat.le_of_ble_eq_true rfl | omega) (by first | exact Nat.le_of_ble_eq_true rfl | omega) ?_
  refine f_X7_lay g (by first | exact jl_d1 hd rfl | omega) ab0 hL jJ.2.2.2 m2 (fun v2 h2 t0 t1 t2 t3 q2 n2 y2 => sg_K1 ?_)
  refine st_as (fun H r => jk_unR I1.1 r) ?_
  obtain ⟨A2, J2⟩ : ∃ A2, jk_J w B M O S xs (jk_unt B h2) A2 := by
    by_cases hz : v1 = 0
    · obtain ⟨c1, c2⟩ := r1 hz
      have n1 := jk_n (k0) hz (by decide)
      have n2 := jk_n (k1 n1) hz (by decide)
      have n3 := jk_n (k2 n1 n2) hz (by decide)
      obtain ⟨d1, d2⟩ := q2 (t3 n1 n2 n3)
      exact ⟨_, jk_JM I1 y2 c2 d2 (ok_lay jJ.2.2.2 hL n1 n2 n3)⟩
    · refine ⟨A, jk_JM I1 y2 (x1 hz) (n2 (fun hm => hz ?_)) jJ.2.2.2⟩
      have m1 := jk_n (t0) hm (by decide)
      have m2 := jk_n (t1 m1) hm (by decide)
      have m3 := jk_n (t2 m1 m2) hm (by decide)
      exact k3 m1 m2 m3
  clear k0 t0 k1 t1 k2 t2 k3 t3
  have I2 := J2.1
  refine sg_istore (pc := 363) dL_law_363 (by decide) ?_
  refine sg_goto (pc := 365) (tgt := 2465) dL_law_365 (by decide) ?_
  refine sg_lsub (lv' := [(0, _), (1, _), (2, _), (3, _), (4, _)]) ⟨rfl, rfl, rfl, rfl, rfl, trivial⟩ ?_
  exact K _ _ _ _ J2 (by omega) (by omega)

set_option maxRecDepth 100000 in
set_option maxHeartbeats 1000000 in
theorem lw_c1 {w : sg_W} {Q : sg_O → sg_H → Prop} {h : sg_H} (g : sg_G w) (nc : jk_C w) (hJ : jz w) {d mc ms : Nat} (hd : 30 ≤ d) {B M O S j k n : Nat} {xs : List Int} {A : fa_A} (jJ : jk_J w B M O S xs h A) (hj : 6 * j + 6 ≤ xs.length) (hl : xs.length ≤ 3072) (hk : k + 1030 ≤ mc) (hn : n + (48 + 56) ≤ ms) (K : ∀ (h' : sg_H) (k' n' : Nat) (A' : fa_A), jk_J w B M O S xs h' A' → k' ≤ k + 1030 → n' ≤ n + (48 + 56) → sg_R w mi_L_law d mc ms Q 2465 [(0, sg_r S), (1, sg_r B), (2, sg_r M), (3, sg_r O), (4, sg_i (6 * (j : Int)))] [] h' k' n') : sg_R w mi_L_law d mc ms Q 368 [(0, sg_r S), (1, sg_r B), (2, sg_r M), (3, sg_r O), (4, sg_i (6 * (j : Int)))] [] h k n := by
  obtain ⟨p1, e1⟩ : ∃ p, xs.getD (6 * (j : Int) + 1).toNat 0 = p := ⟨_, rfl⟩
  obtain ⟨p2, e2⟩ : ∃ p, xs.getD (6 * (j : Int) + 2).toNat 0 = p := ⟨_, rfl⟩
  obtain ⟨p3, e3⟩ : ∃ p, xs.getD (6 * (j : Int) + 3).toNat 0 = p := ⟨_, rfl⟩
  obtain ⟨p4, e4⟩ : ∃ p, xs.getD (6 * (j : Int) + 4).toNat 0 = p := ⟨_, rfl⟩
  obtain ⟨p5, e5⟩ : ∃ p, xs.getD (6 * (j : Int) + 5).toNat 0 = p := ⟨_, rfl⟩
  refine sg_aload_n (pc := 368) (j := 1) dL_law_368 rfl rfl ?_
  refine sg_aload_n (pc := 369) (j := 0) dL_law_369 rfl rfl ?_
  refine sg_iload (pc := 370) dL_law_370 rfl ?_
  refine sg_iconst (pc := 372) (z := 1) dL_law_372 (by decide) ?_
  first | refine sg_iaddB (pc := 373) dL_law_373 (by omega) (by omega) ?_ | refine sg_iadd (pc := 373) dL_law_373 ?_
  refine sg_iald (pc := 374) dL_law_374 jJ.1.2.2.2.2.2.2.2.2.2 rfl (by omega) (jk_x (by omega) (by omega)) ?_
  try rw [e1]
  try rw [e2]
  try rw [e3]
  try rw [e4]
  try rw [e5]
  refine sg_aload_n (pc := 375) (j := 0) dL_law_375 rfl rfl ?_
  refine sg_iload (pc := 376) dL_law_376 rfl ?_
  refine sg_iconst (pc := 378) (z := 2) dL_law_378 (by decide) ?_
  first | refine sg_iaddB (pc := 379) dL_law_379 (by omega) (by omega) ?_ | refine sg_iadd (pc := 379) dL_law_379 ?_
  refine sg_iald (pc := 380) dL_law_380 jJ.1.2.2.2.2.2.2.2.2.2 rfl (by omega) (jk_x (by omega) (by omega)) ?_
  try rw [e1]
  try rw [e2]
  try rw [e3]
  try rw [e4]
  try rw [e5]
  refine sg_aload_n (pc := 381) (j := 3) dL_law_381 rfl rfl ?_
  obtain ⟨L, hL⟩ : ∃ X, fa_L A p1.toNat = X := ⟨_, rfl⟩
  refine st_cS4 (pc := 382) (d' := d - 1) (mc' := 8) (ms' := 48) g dL_law_382 cb_L_drop cw_L_drop ml_L_196 ms_L_drop (Nat.le_of_ble_eq_true rfl) (by first | exact jl_d0 hd rfl | omega) (by first | exact Nat.le_of_ble_eq_true rfl | omega) (by first | exact Nat.le_of_ble_eq_true rfl | omega) ?_
  refine f_L_drop g nc (by omega) jJ.1 jJ.2.1 jJ.2.2.2 hL (fun v1 h1 I1 X1 k0 k1 k2 x1 r1 => sg_K1 ?_)
  refine sg_istore (pc := 385) dL_law_385 (by decide) ?_
  refine sg_aload_n (pc := 387) (j := 2) dL_law_387 rfl rfl ?_
  refine sg_aload_n (pc := 388) (j := 0) dL_law_388 rfl rfl ?_
  refine sg_iload (pc := 389) dL_law_389 rfl ?_
  refine sg_iconst (pc := 391) (z := 1) dL_law_391 (by decide) ?_
  first | refine sg_iaddB (pc := 392) dL_law_392 (by omega) (by omega) ?_ | refine sg_iadd (pc := 392) dL_law_392 ?_
  refine sg_iald (pc := 393) dL_law_393 I1.2.2.2.2.2.2.2.2.2 rfl (by omega) (jk_x (by omega) (by omega)) ?_
  try rw [e1]
  try rw [e2]
  try rw [e3]
  try rw [e4]
  try rw [e5]
  refine sg_aload_n (pc := 394) (j := 0) dL_law_394 rfl rfl ?_
  refine sg_iload (pc := 395) dL_law_395 rfl ?_
  refine sg_iconst (pc := 397) (z := 2) dL_law_397 (by decide) ?_
  first | refine sg_iaddB (pc := 398) dL_law_398 (by omega) (by omega) ?_ | refine sg_iadd (pc := 398) dL_law_398 ?_
  refine sg_iald (pc := 399) dL_law_399 I1.2.2.2.2.2.2.2.2.2 rfl (by omega) (jk_x (by omega) (by omega)) ?_
  try rw [e1]
  try rw [e2]
  try rw [e3]
  try rw [e4]
  try rw [e5]
  refine st_as (fun H r => jk_tgR (B := B) r) ?_
  have m2 := jk_Im I1
  have ab0 := jk_Jt jJ I1 X1
  refine sg_cE2 (pc := 400) (d' := d - 1) (mc' := 3) (ms' := 56) 8 g dL_law_400 cb_X7_drop ml_L_199 mn_X7_drop rfl mv_X7_drop (Nat.le_of_ble_eq_true rfl) (md_oc m2) (Nat.le_of_ble_eq_true rfl) (by first | exact jl_d0 hd rfl | omega) (by first | exact Nat.le_of_ble_eq_true rfl | omega) (by first | exact Nat.le_of_ble_eq_true rfl | omega) ?_
  refine f_X7_drop g (by first | exact jl_d1 hd rfl | omega) ab0 hL jJ.2.2.2 m2 (fun v2 h2 t0 t1 t2 q2 n2 y2 => sg_K1 ?_)
  refine st_as (fun H r => jk_unR I1.1 r) ?_
  obtain ⟨A2, J2⟩ : ∃ A2, jk_J w B M O S xs (jk_unt B h2) A2 := by
    by_cases hz : v1 = 0
    · obtain ⟨c1, c2⟩ := r1 hz
      have n1 := jk_n (k0) hz (by decide)
      have n2 := jk_n (k1 n1) hz (by decide)
      obtain ⟨d1, d2⟩ := q2 (t2 n1 n2)
      exact ⟨_, jk_JM I1 y2 c2 d2 (ok_drop jJ.2.2.2 hL n1 n2)⟩
    · refine ⟨A, jk_JM I1 y2 (x1 hz) (n2 (fun hm => hz ?_)) jJ.2.2.2⟩
      have m1 := jk_n (t0) hm (by decide)
      have m2 := jk_n (t1 m1) hm (by decide)
      exact k2 m1 m2
  clear k0 t0 k1 t1 k2 t2
  have I2 := J2.1
  refine sg_istore (pc := 403) dL_law_403 (by decide) ?_
  refine sg_goto (pc := 405) (tgt := 2465) dL_law_405 (by decide) ?_
  refine sg_lsub (lv' := [(0, _), (1, _), (2, _), (3, _), (4, _)]) ⟨rfl, rfl, rfl, rfl, rfl, trivial⟩ ?_
  exact K _ _ _ _ J2 (by omega) (by omega)

set_option maxRecDepth 100000 in
set_option maxHeartbeats 1000000 in
theorem lw_c2 {w : sg_W} {Q : sg_O → sg_H → Prop} {h : sg_H} (g : sg_G w) (nc : jk_C w) (hJ : jz w) {d mc ms : Nat} (hd : 30 ≤ d) {B M O S j k n : Nat} {xs : List Int} {A : fa_A} (jJ : jk_J w B M O S xs h A) (hj : 6 * j + 6 ≤ xs.length) (hl : xs.length ≤ 3072) (hk : k + 1030 ≤ mc) (hn : n + (48 + 16) ≤ ms) (K : ∀ (h' : sg_H) (k' n' : Nat) (A' : fa_A), jk_J w B M O S xs h' A' → k' ≤ k + 1030 → n' ≤ n + (48 + 16) → sg_R w mi_L_law d mc ms Q 2465 [(0, sg_r S), (1, sg_r B), (2, sg_r M), (3, sg_r O), (4, sg_i (6 * (j : Int)))] [] h' k' n') : sg_R w mi_L_law d mc ms Q 408 [(0, sg_r S), (1, sg_r B), (2, sg_r M), (3, sg_r O), (4, sg_i (6 * (j : Int)))] [] h k n := by
  obtain ⟨p1, e1⟩ : ∃ p, xs.getD (6 * (j : Int) + 1).toNat 0 = p := ⟨_, rfl⟩
  obtain ⟨p2, e2⟩ : ∃ p, xs.getD (6 * (j : Int) + 2).toNat 0 = p := ⟨_, rfl⟩
  obtain ⟨p3, e3⟩ : ∃ p, xs.getD (6 * (j : Int) + 3).toNat 0 = p := ⟨_, rfl⟩
  obtain ⟨p4, e4⟩ : ∃ p, xs.getD (6 * (j : Int) + 4).toNat 0 = p := ⟨_, rfl⟩
  obtain ⟨p5, e5⟩ : ∃ p, xs.getD (6 * (j : Int) + 5).toNat 0 = p := ⟨_, rfl⟩
  refine sg_aload_n (pc := 408) (j := 1) dL_law_408 rfl rfl ?_
  refine sg_aload_n (pc := 409) (j := 0) dL_law_409 rfl rfl ?_
  refine sg_iload (pc := 410) dL_law_410 rfl ?_
  refine sg_iconst (pc := 412) (z := 1) dL_law_412 (by decide) ?_
  first | refine sg_iaddB (pc := 413) dL_law_413 (by omega) (by omega) ?_ | refine sg_iadd (pc := 413) dL_law_413 ?_
  refine sg_iald (pc := 414) dL_law_414 jJ.1.2.2.2.2.2.2.2.2.2 rfl (by omega) (jk_x (by omega) (by omega)) ?_
  try rw [e1]
  try rw [e2]
  try rw [e3]
  try rw [e4]
  try rw [e5]
  refine sg_aload_n (pc := 415) (j := 0) dL_law_415 rfl rfl ?_
  refine sg_iload (pc := 416) dL_law_416 rfl ?_
  refine sg_iconst (pc := 418) (z := 2) dL_law_418 (by decide) ?_
  first | refine sg_iaddB (pc := 419) dL_law_419 (by omega) (by omega) ?_ | refine sg_iadd (pc := 419) dL_law_419 ?_
  refine sg_iald (pc := 420) dL_law_420 jJ.1.2.2.2.2.2.2.2.2.2 rfl (by omega) (jk_x (by omega) (by omega)) ?_
  try rw [e1]
  try rw [e2]
  try rw [e3]
  try rw [e4]
  try rw [e5]
  refine sg_aload_n (pc := 421) (j := 3) dL_law_421 rfl rfl ?_
  obtain ⟨L, hL⟩ : ∃ X, fa_L A p1.toNat = X := ⟨_, rfl⟩
  obtain ⟨Z, hZ⟩ : ∃ X, fa_L A p2.toNat = X := ⟨_, rfl⟩
  refine st_cS4 (pc := 422) (d' := d - 1) (mc' := 8) (ms' := 48) g dL_law_422 cb_L_copy cw_L_copy ml_L_200 ms_L_copy (Nat.le_of_ble_eq_true rfl) (by first | exact jl_d0 hd rfl | omega) (by first | exact Nat.le_of_ble_eq_true rfl | omega) (by first | exact Nat.le_of_ble_eq_true rfl | omega) ?_
  refine f_L_copy g nc (by omega) jJ.1 jJ.2.1 jJ.2.2.2 hL hZ (fun v1 h1 I1 X1 k0 k1 x1 r1 => sg_K1 ?_)
  refine sg_istore (pc := 425) dL_law_425 (by decide) ?_
  refine sg_aload_n (pc := 427) (j := 2) dL_law_427 rfl rfl ?_
  refine sg_aload_n (pc := 428) (j := 0) dL_law_428 rfl rfl ?_
  refine sg_iload (pc := 429) dL_law_429 rfl ?_
  refine sg_iconst (pc := 431) (z := 1) dL_law_431 (by decide) ?_
  first | refine sg_iaddB (pc := 432) dL_law_432 (by omega) (by omega) ?_ | refine sg_iadd (pc := 432) dL_law_432 ?_
  refine sg_iald (pc := 433) dL_law_433 I1.2.2.2.2.2.2.2.2.2 rfl (by omega) (jk_x (by omega) (by omega)) ?_
  try rw [e1]
  try rw [e2]
  try rw [e3]
  try rw [e4]
  try rw [e5]
  refine sg_aload_n (pc := 434) (j := 0) dL_law_434 rfl rfl ?_
  refine sg_iload (pc := 435) dL_law_435 rfl ?_
  refine sg_iconst (pc := 437) (z := 2) dL_law_437 (by decide) ?_
  first | refine sg_iaddB (pc := 438) dL_law_438 (by omega) (by omega) ?_ | refine sg_iadd (pc := 438) dL_law_438 ?_
  refine sg_iald (pc := 439) dL_law_439 I1.2.2.2.2.2.2.2.2.2 rfl (by omega) (jk_x (by omega) (by omega)) ?_
  try rw [e1]
  try rw [e2]
  try rw [e3]
  try rw [e4]
  try rw [e5]
  refine st_as (fun H r => jk_tgR (B := B) r) ?_
  have m2 := jk_Im I1
  have ab0 := jk_Jt jJ I1 X1
  refine sg_cE2 (pc := 440) (d' := d - 1) (mc' := 2) (ms' := 16) 8 g dL_law_440 cb_X7_copy ml_L_202 mn_X7_copy rfl mv_X7_copy (Nat.le_of_ble_eq_true rfl) (md_oc m2) (Nat.le_of_ble_eq_true rfl) (by first | exact jl_d0 hd rfl | omega) (by first | exact Nat.le_of_ble_eq_true rfl | omega) (by first | exact Nat.le_of_ble_eq_true rfl | omega) ?_
  refine f_X7_copy g (by first | exact jl_d1 hd rfl | omega) ab0 hL hZ jJ.2.2.2 m2 (fun v2 h2 t0 t1 q2 n2 y2 => sg_K1 ?_)
  refine st_as (fun H r => jk_unR I1.1 r) ?_
  obtain ⟨A2, J2⟩ : ∃ A2, jk_J w B M O S xs (jk_unt B h2) A2 := by
    by_cases hz : v1 = 0
    · obtain ⟨c1, c2⟩ := r1 hz
      have n1 := jk_n (k0) hz (by decide)
      obtain ⟨d1, d2⟩ := q2 (t1 n1)
      exact ⟨_, jk_JM I1 y2 c2 d2 (ok_copy jJ.2.2.2 hL hZ n1)⟩
    · refine ⟨A, jk_JM I1 y2 (x1 hz) (n2 (fun hm => hz ?_)) jJ.2.2.2⟩
      have m1 := jk_n (t0) hm (by decide)
      exact k1 m1
  clear k0 t0 k1 t1
  have I2 := J2.1
  refine sg_istore (pc := 443) dL_law_443 (by decide) ?_
  refine sg_goto (pc := 445) (tgt := 2465) dL_law_445 (by decide) ?_
  refine sg_lsub (lv' := [(0, _), (1, _), (2, _), (3, _), (4, _)]) ⟨rfl, rfl, rfl, rfl, rfl, trivial⟩ ?_
  exact K _ _ _ _ J2 (by omega) (by omega)

set_option maxRecDepth 100000 in
set_option maxHeartbeats 1000000 in
theorem lw_c3 {w : sg_W} {Q : sg_O → sg_H → Prop} {h : sg_H} (g : sg_G w) (nc : jk_C w) (hJ : jz w) {d mc ms : Nat} (hd : 30 ≤ d) {B M O S j k n : Nat} {xs : List Int} {A : fa_A} (jJ : jk_J w B M O S xs h A) (hj : 6 * j + 6 ≤ xs.length) (hl : xs.length ≤ 3072) (hk : k + 1030 ≤ mc) (hn : n + (48 + 56) ≤ ms) (K : ∀ (h' : sg_H) (k' n' : Nat) (A' : fa_A), jk_J w B M O S xs h' A' → k' ≤ k + 1030 → n' ≤ n + (48 + 56) → sg_R w mi_L_law d mc ms Q 2465 [(0, sg_r S), (1, sg_r B), (2, sg_r M), (3, sg_r O), (4, sg_i (6 * (j : Int)))] [] h' k' n') : sg_R w mi_L_law d mc ms Q 448 [(0, sg_r S), (1, sg_r B), (2, sg_r M), (3, sg_r O), (4, sg_i (6 * (j : Int)))] [] h k n := by
  obtain ⟨p1, e1⟩ : ∃ p, xs.getD (6 * (j : Int) + 1).toNat 0 = p := ⟨_, rfl⟩
  obtain ⟨p2, e2⟩ : ∃ p, xs.getD (6 * (j : Int) + 2).toNat 0 = p := ⟨_, rfl⟩
  obtain ⟨p3, e3⟩ : ∃ p, xs.getD (6 * (j : Int) + 3).toNat 0 = p := ⟨_, rfl⟩
  obtain ⟨p4, e4⟩ : ∃ p, xs.getD (6 * (j : Int) + 4).toNat 0 = p := ⟨_, rfl⟩
  obtain ⟨p5, e5⟩ : ∃ p, xs.getD (6 * (j : Int) + 5).toNat 0 = p := ⟨_, rfl⟩
  refine sg_aload_n (pc := 448) (j := 1) dL_law_448 rfl rfl ?_
  refine sg_aload_n (pc := 449) (j := 0) dL_law_449 rfl rfl ?_
  refine sg_iload (pc := 450) dL_law_450 rfl ?_
  refine sg_iconst (pc := 452) (z := 1) dL_law_452 (by decide) ?_
  first | refine sg_iaddB (pc := 453) dL_law_453 (by omega) (by omega) ?_ | refine sg_iadd (pc := 453) dL_law_453 ?_
  refine sg_iald (pc := 454) dL_law_454 jJ.1.2.2.2.2.2.2.2.2.2 rfl (by omega) (jk_x (by omega) (by omega)) ?_
  try rw [e1]
  try rw [e2]
  try rw [e3]
  try rw [e4]
  try rw [e5]
  refine sg_aload_n (pc := 455) (j := 3) dL_law_455 rfl rfl ?_
  obtain ⟨L, hL⟩ : ∃ X, fa_L A p1.toNat = X := ⟨_, rfl⟩
  refine st_cS3 (pc := 456) (d' := d - 1) (mc' := 8) (ms' := 48) g dL_law_456 cb_L_raise cw_L_raise ml_L_203 ms_L_raise (Nat.le_of_ble_eq_true rfl) (by first | exact jl_d0 hd rfl | omega) (by first | exact Nat.le_of_ble_eq_true rfl | omega) (by first | exact Nat.le_of_ble_eq_true rfl | omega) ?_
  refine f_L_raise g nc (by omega) jJ.1 jJ.2.1 jJ.2.2.2 hL (fun v1 h1 I1 X1 k0 k1 x1 r1 => sg_K1 ?_)
  refine sg_istore (pc := 459) dL_law_459 (by decide) ?_
  refine sg_aload_n (pc := 461) (j := 2) dL_law_461 rfl rfl ?_
  refine sg_aload_n (pc := 462) (j := 0) dL_law_462 rfl rfl ?_
  refine sg_iload (pc := 463) dL_law_463 rfl ?_
  refine sg_iconst (pc := 465) (z := 1) dL_law_465 (by decide) ?_
  first | refine sg_iaddB (pc := 466) dL_law_466 (by omega) (by omega) ?_ | refine sg_iadd (pc := 466) dL_law_466 ?_
  refine sg_iald (pc := 467) dL_law_467 I1.2.2.2.2.2.2.2.2.2 rfl (by omega) (jk_x (by omega) (by omega)) ?_
  try rw [e1]
  try rw [e2]
  try rw [e3]
  try rw [e4]
  try rw [e5]
  refine st_as (fun H r => jk_tgR (B := B) r) ?_
  have m2 := jk_Im I1
  have ab0 := jk_Jt jJ I1 X1
  refine sg_cE1 (pc := 468) (d' := d - 1) (mc' := 3) (ms' := 56) 8 g dL_law_468 cb_X7_raise ml_L_206 mn_X7_raise rfl mv_X7_raise (Nat.le_of_ble_eq_true rfl) (md_oc m2) (Nat.le_of_ble_eq_true rfl) (by first | exact jl_d0 hd rfl | omega) (by first | exact Nat.le_of_ble_eq_true rfl | omega) (by first | exact Nat.le_of_ble_eq_true rfl | omega) ?_
  refine f_X7_raise g (by first | exact jl_d1 hd rfl | omega) ab0 hL jJ.2.2.2 m2 (fun v2 h2 t0 t1 q2 n2 y2 => sg_K1 ?_)
  refine st_as (fun H r => jk_unR I1.1 r) ?_
  obtain ⟨A2, J2⟩ : ∃ A2, jk_J w B M O S xs (jk_unt B h2) A2 := by
    by_cases hz : v1 = 0
    · obtain ⟨c1, c2⟩ := r1 hz
      have n1 := jk_n (k0) hz (by decide)
      obtain ⟨d1, d2⟩ := q2 (t1 n1)
      exact ⟨_, jk_JM I1 y2 c2 d2 (ok_raise jJ.2.2.2 hL n1)⟩
    · refine ⟨A, jk_JM I1 y2 (x1 hz) (n2 (fun hm => hz ?_)) jJ.2.2.2⟩
      have m1 := jk_n (t0) hm (by decide)
      exact k1 m1
  have ek : md_t h2 M = v1 := (Classical.byCases (fun q1 => (t0 q1).trans (show v1 = 1 from k0 q1).symm) (fun q1 => (t1 q1).trans (show v1 = 0 from k1 q1).symm))
  clear k0 t0 k1 t1
  have I2 := J2.1
  have eo := jk_oM I1 y2
  refine sg_istore (pc := 471) dL_law_471 (by decide) ?_
  refine sg_aload_n (pc := 473) (j := 2) dL_law_473 rfl rfl ?_
  obtain ⟨tv, eT⟩ := jk_th I2
  refine sg_cE0 (pc := 474) (d' := d - 1) (mc' := 0) (ms' := 0) 8 g dL_law_474 cb_X7_thrown ml_L_207 mn_X7_thrown rfl mv_X7_thrown (Nat.le_of_ble_eq_true rfl) ⟨_, eT⟩ (Nat.le_of_ble_eq_true rfl) (by first | exact jl_d0 hd rfl | omega) (by first | exact Nat.le_of_ble_eq_true rfl | omega) (by first | exact Nat.le_of_ble_eq_true rfl | omega) ?_
  refine s_X7_thrown g (by first | exact jl_d1 hd rfl | omega) eT (sg_K1 ?_)
  refine sg_iload (pc := 477) dL_law_477 rfl ?_
  refine sg_icmp_eq (pc := 479) (tgt := 484) dL_law_479 (by decide) (fun ct => ?_) (fun ct => absurd ?_ ct)
  · refine sg_iload (pc := 484) dL_law_484 rfl ?_
    refine sg_if_ne (pc := 486) (tgt := 502) dL_law_486 (by decide) (fun c486 => ?_) (fun c486 => ?_)
    · refine sg_goto (pc := 502) (tgt := 2465) dL_law_502 (by decide) ?_
      refine sg_lsub (lv' := [(0, _), (1, _), (2, _), (3, _), (4, _)]) ⟨rfl, rfl, rfl, rfl, rfl, trivial⟩ ?_
      exact K _ _ _ _ J2 (by omega) (by omega)
    · refine sg_aload_n (pc := 489) (j := 3) dL_law_489 rfl rfl ?_
      obtain ⟨ro, eO⟩ := jk_oz I2
      refine sg_getN (pc := 490) g dL_law_490 fk_L_13 eO rfl rfl ?_
      refine sg_iload (pc := 493) dL_law_493 rfl ?_
      refine sg_i2l (pc := 495) dL_law_495 ?_
      refine sg_lcmp (pc := 496) dL_law_496 (fun zc ec => ?_)
      refine sg_if_eq (pc := 497) (tgt := 502) dL_law_497 (by decide) (fun cq => ?_) (fun cq => absurd (ec.mpr ?_) cq)
      · refine sg_goto (pc := 502) (tgt := 2465) dL_law_502 (by decide) ?_
        refine sg_lsub (lv' := [(0, _), (1, _), (2, _), (3, _), (4, _)]) ⟨rfl, rfl, rfl, rfl, rfl, trivial⟩ ?_
        exact K _ _ _ _ J2 (by omega) (by omega)
      · rw [eo, (r1 (by omega)).1, (q2 (by omega)).1]
  · omega

set_option maxRecDepth 100000 in
set_option maxHeartbeats 1000000 in
theorem lw_c4 {w : sg_W} {Q : sg_O → sg_H → Prop} {h : sg_H} (g : sg_G w) (nc : jk_C w) (hJ : jz w) {d mc ms : Nat} (hd : 30 ≤ d) {B M O S j k n : Nat} {xs : List Int} {A : fa_A} (jJ : jk_J w B M O S xs h A) (hj : 6 * j + 6 ≤ xs.length) (hl : xs.length ≤ 3072) (hk : k + 1030 ≤ mc) (hn : n + (48 + 56) ≤ ms) (K : ∀ (h' : sg_H) (k' n' : Nat) (A' : fa_A), jk_J w B M O S xs h' A' → k' ≤ k + 1030 → n' ≤ n + (48 + 56) → sg_R w mi_L_law d mc ms Q 2465 [(0, sg_r S), (1, sg_r B), (2, sg_r M), (3, sg_r O), (4, sg_i (6 * (j : Int)))] [] h' k' n') : sg_R w mi_L_law d mc ms Q 505 [(0, sg_r S), (1, sg_r B), (2, sg_r M), (3, sg_r O), (4, sg_i (6 * (j : Int)))] [] h k n := by
  obtain ⟨p1, e1⟩ : ∃ p, xs.getD (6 * (j : Int) + 1).toNat 0 = p := ⟨_, rfl⟩
  obtain ⟨p2, e2⟩ : ∃ p, xs.getD (6 * (j : Int) + 2).toNat 0 = p := ⟨_, rfl⟩
  obtain ⟨p3, e3⟩ : ∃ p, xs.getD (6 * (j : Int) + 3).toNat 0 = p := ⟨_, rfl⟩
  obtain ⟨p4, e4⟩ : ∃ p, xs.getD (6 * (j : Int) + 4).toNat 0 = p := ⟨_, rfl⟩
  obtain ⟨p5, e5⟩ : ∃ p, xs.getD (6 * (j : Int) + 5).toNat 0 = p := ⟨_, rfl⟩
  refine sg_aload_n (pc := 505) (j := 1) dL_law_505 rfl rfl ?_
  refine sg_aload_n (pc := 506) (j := 0) dL_law_506 rfl rfl ?_
  refine sg_iload (pc := 507) dL_law_507 rfl ?_
  refine sg_iconst (pc := 509) (z := 1) dL_law_509 (by decide) ?_
  first | refine sg_iaddB (pc := 510) dL_law_510 (by omega) (by omega) ?_ | refine sg_iadd (pc := 510) dL_law_510 ?_
  refine sg_iald (pc := 511) dL_law_511 jJ.1.2.2.2.2.2.2.2.2.2 rfl (by omega) (jk_x (by omega) (by omega)) ?_
  try rw [e1]
  try rw [e2]
  try rw [e3]
  try rw [e4]
  try rw [e5]
  refine sg_aload_n (pc := 512) (j := 3) dL_law_512 rfl rfl ?_
  obtain ⟨L, hL⟩ : ∃ X, fa_L A p1.toNat = X := ⟨_, rfl⟩
  refine st_cS3 (pc := 513) (d' := d - 1) (mc' := 8) (ms' := 48) g dL_law_513 cb_L_sink cw_L_sink ml_L_210 ms_L_sink (Nat.le_of_ble_eq_true rfl) (by first | exact jl_d0 hd rfl | omega) (by first | exact Nat.le_of_ble_eq_true rfl | omega) (by first | exact Nat.le_of_ble_eq_true rfl | omega) ?_
  refine f_L_sink g nc (by omega) jJ.1 jJ.2.1 jJ.2.2.2 hL (fun v1 h1 I1 X1 k0 k1 x1 r1 => sg_K1 ?_)
  refine sg_istore (pc := 516) dL_law_516 (by decide) ?_
  refine sg_aload_n (pc := 518) (j := 2) dL_law_518 rfl rfl ?_
  refine sg_aload_n (pc := 519) (j := 0) dL_law_519 rfl rfl ?_
  refine sg_iload (pc := 520) dL_law_520 rfl ?_
  refine sg_iconst (pc := 522) (z := 1) dL_law_522 (by decide) ?_
  first | refine sg_iaddB (pc := 523) dL_law_523 (by omega) (by omega) ?_ | refine sg_iadd (pc := 523) dL_law_523 ?_
  refine sg_iald (pc := 524) dL_law_524 I1.2.2.2.2.2.2.2.2.2 rfl (by omega) (jk_x (by omega) (by omega)) ?_
  try rw [e1]
  try rw [e2]
  try rw [e3]
  try rw [e4]
  try rw [e5]
  refine st_as (fun H r => jk_tgR (B := B) r) ?_
  have m2 := jk_Im I1
  have ab0 := jk_Jt jJ I1 X1
  refine sg_cE1 (pc := 525) (d' := d - 1) (mc' := 3) (ms' := 56) 8 g dL_law_525 cb_X7_sink ml_L_212 mn_X7_sink rfl mv_X7_sink (Nat.le_of_ble_eq_true rfl) (md_oc m2) (Nat.le_of_ble_eq_true rfl) (by first | exact jl_d0 hd rfl | omega) (by first | exact Nat.le_of_ble_eq_true rfl | omega) (by first | exact Nat.le_of_ble_eq_true rfl | omega) ?_
  refine f_X7_sink g (by first | exact jl_d1 hd rfl | omega) ab0 hL jJ.2.2.2 m2 (fun v2 h2 t0 t1 q2 n2 y2 => sg_K1 ?_)
  refine st_as (fun H r => jk_unR I1.1 r) ?_
  obtain ⟨A2, J2⟩ : ∃ A2, jk_J w B M O S xs (jk_unt B h2) A2 := by
    by_cases hz : v1 = 0
    · obtain ⟨c1, c2⟩ := r1 hz
      have n1 := jk_n (k0) hz (by decide)
      obtain ⟨d1, d2⟩ := q2 (t1 n1)
      exact ⟨_, jk_JM I1 y2 c2 d2 (ok_sink jJ.2.2.2 hL n1)⟩
    · refine ⟨A, jk_JM I1 y2 (x1 hz) (n2 (fun hm => hz ?_)) jJ.2.2.2⟩
      have m1 := jk_n (t0) hm (by decide)
      exact k1 m1
  clear k0 t0 k1 t1
  have I2 := J2.1
  refine sg_istore (pc := 528) dL_law_528 (by decide) ?_
  refine sg_goto (pc := 530) (tgt := 2465) dL_law_530 (by decide) ?_
  refine sg_lsub (lv' := [(0, _), (1, _), (2, _), (3, _), (4, _)]) ⟨rfl, rfl, rfl, rfl, rfl, trivial⟩ ?_
  exact K _ _ _ _ J2 (by omega) (by omega)

set_option maxRecDepth 100000 in
set_option maxHeartbeats 1000000 in
theorem lw_c5 {w : sg_W} {Q : sg_O → sg_H → Prop} {h : sg_H} (g : sg_G w) (nc : jk_C w) (hJ : jz w) {d mc ms : Nat} (hd : 30 ≤ d) {B M O S j k n : Nat} {xs : List Int} {A : fa_A} (jJ : jk_J w B M O S xs h A) (hj : 6 * j + 6 ≤ xs.length) (hl : xs.length ≤ 3072) (hk : k + 1030 ≤ mc) (hn : n + (48 + 1736) ≤ ms) (K : ∀ (h' : sg_H) (k' n' : Nat) (A' : fa_A), jk_J w B M O S xs h' A' → k' ≤ k + 1030 → n' ≤ n + (48 + 1736) → sg_R w mi_L_law d mc ms Q 2465 [(0, sg_r S), (1, sg_r B), (2, sg_r M), (3, sg_r O), (4, sg_i (6 * (j : Int)))] [] h' k' n') : sg_R w mi_L_law d mc ms Q 533 [(0, sg_r S), (1, sg_r B), (2, sg_r M), (3, sg_r O), (4, sg_i (6 * (j : Int)))] [] h k n := by
  obtain ⟨p1, e1⟩ : ∃ p, xs.getD (6 * (j : Int) + 1).toNat 0 = p := ⟨_, rfl⟩
  obtain ⟨p2, e2⟩ : ∃ p, xs.getD (6 * (j : Int) + 2).toNat 0 = p := ⟨_, rfl⟩
  obtain ⟨p3, e3⟩ : ∃ p, xs.getD (6 * (j : Int) + 3).toNat 0 = p := ⟨_, rfl⟩
  obtain ⟨p4, e4⟩ : ∃ p, xs.getD (6 * (j : Int) + 4).toNat 0 = p := ⟨_, rfl⟩
  obtain ⟨p5, e5⟩ : ∃ p, xs.getD (6 * (j : Int) + 5).toNat 0 = p := ⟨_, rfl⟩
  refine sg_aload_n (pc := 533) (j := 1) dL_law_533 rfl rfl ?_
  refine sg_aload_n (pc := 534) (j := 0) dL_law_534 rfl rfl ?_
  refine sg_iload (pc := 535) dL_law_535 rfl ?_
  refine sg_iconst (pc := 537) (z := 1) dL_law_537 (by decide) ?_
  first | refine sg_iaddB (pc := 538) dL_law_538 (by omega) (by omega) ?_ | refine sg_iadd (pc := 538) dL_law_538 ?_
  refine sg_iald (pc := 539) dL_law_539 jJ.1.2.2.2.2.2.2.2.2.2 rfl (by omega) (jk_x (by omega) (by omega)) ?_
  try rw [e1]
  try rw [e2]
  try rw [e3]
  try rw [e4]
  try rw [e5]
  refine sg_aload_n (pc := 540) (j := 0) dL_law_540 rfl rfl ?_
  refine sg_iload (pc := 541) dL_law_541 rfl ?_
  refine sg_iconst (pc := 543) (z := 2) dL_law_543 (by decide) ?_
  first | refine sg_iaddB (pc := 544) dL_law_544 (by omega) (by omega) ?_ | refine sg_iadd (pc := 544) dL_law_544 ?_
  refine sg_iald (pc := 545) dL_law_545 jJ.1.2.2.2.2.2.2.2.2.2 rfl (by omega) (jk_x (by omega) (by omega)) ?_
  try rw [e1]
  try rw [e2]
  try rw [e3]
  try rw [e4]
  try rw [e5]
  refine sg_aload_n (pc := 546) (j := 0) dL_law_546 rfl rfl ?_
  refine sg_iload (pc := 547) dL_law_547 rfl ?_
  refine sg_iconst (pc := 549) (z := 3) dL_law_549 (by decide) ?_
  first | refine sg_iaddB (pc := 550) dL_law_550 (by omega) (by omega) ?_ | refine sg_iadd (pc := 550) dL_law_550 ?_
  refine sg_iald (pc := 551) dL_law_551 jJ.1.2.2.2.2.2.2.2.2.2 rfl (by omega) (jk_x (by omega) (by omega)) ?_
  try rw [e1]
  try rw [e2]
  try rw [e3]
  try rw [e4]
  try rw [e5]
  refine sg_if_eq (pc := 552) (tgt := 559) dL_law_552 (by decide) (fun c552 => ?_) (fun c552 => ?_)
  · refine sg_iconst (pc := 559) (z := 0) dL_law_559 (by decide) ?_
    refine sg_aload_n (pc := 560) (j := 3) dL_law_560 rfl rfl ?_
    obtain ⟨L, hL⟩ : ∃ X, fa_L A p1.toNat = X := ⟨_, rfl⟩
    refine st_cS5 (pc := 561) (d' := d - 1) (mc' := 8) (ms' := 48) g dL_law_561 cb_L_sieve cw_L_sieve ml_L_213 ms_L_sieve (Nat.le_of_ble_eq_true rfl) (by first | exact jl_d0 hd rfl | omega) (by first | exact Nat.le_of_ble_eq_true rfl | omega) (by first | exact Nat.le_of_ble_eq_true rfl | omega) ?_
    refine f_L_sieve g nc (by omega) jJ.1 jJ.2.1 jJ.2.2.2 hL (fun v1 h1 I1 X1 k0 k1 k2 x1 r1 => sg_K1 ?_)
    refine sg_istore (pc := 564) dL_law_564 (by decide) ?_
    refine sg_aload_n (pc := 566) (j := 2) dL_law_566 rfl rfl ?_
    refine sg_aload_n (pc := 567) (j := 0) dL_law_567 rfl rfl ?_
    refine sg_iload (pc := 568) dL_law_568 rfl ?_
    refine sg_iconst (pc := 570) (z := 1) dL_law_570 (by decide) ?_
    first | refine sg_iaddB (pc := 571) dL_law_571 (by omega) (by omega) ?_ | refine sg_iadd (pc := 571) dL_law_571 ?_
    refine sg_iald (pc := 572) dL_law_572 I1.2.2.2.2.2.2.2.2.2 rfl (by omega) (jk_x (by omega) (by omega)) ?_
    try rw [e1]
    try rw [e2]
    try rw [e3]
    try rw [e4]
    try rw [e5]
    refine sg_aload_n (pc := 573) (j := 0) dL_law_573 rfl rfl ?_
    refine sg_iload (pc := 574) dL_law_574 rfl ?_
    refine sg_iconst (pc := 576) (z := 2) dL_law_576 (by decide) ?_
    first | refine sg_iaddB (pc := 577) dL_law_577 (by omega) (by omega) ?_ | refine sg_iadd (pc := 577) dL_law_577 ?_
    refine sg_iald (pc := 578) dL_law_578 I1.2.2.2.2.2.2.2.2.2 rfl (by omega) (jk_x (by omega) (by omega)) ?_
    try rw [e1]
    try rw [e2]
    try rw [e3]
    try rw [e4]
    try rw [e5]
    refine sg_aload_n (pc := 579) (j := 0) dL_law_579 rfl rfl ?_
    refine sg_iload (pc := 580) dL_law_580 rfl ?_
    refine sg_iconst (pc := 582) (z := 3) dL_law_582 (by decide) ?_
    first | refine sg_iaddB (pc := 583) dL_law_583 (by omega) (by omega) ?_ | refine sg_iadd (pc := 583) dL_law_583 ?_
    refine sg_iald (pc := 584) dL_law_584 I1.2.2.2.2.2.2.2.2.2 rfl (by omega) (jk_x (by omega) (by omega)) ?_
    try rw [e1]
    try rw [e2]
    try rw [e3]
    try rw [e4]
    try rw [e5]
    refine sg_if_eq (pc := 585) (tgt := 592) dL_law_585 (by decide) (fun c585 => ?_) (fun c585 => absurd c552 c585)
    refine sg_iconst (pc := 592) (z := 0) dL_law_592 (by decide) ?_
    refine st_as (fun H r => jk_tgR (B := B) r) ?_
    have m2 := jk_Im I1
    have ab0 := jk_Jt jJ I1 X1
    refine sg_cE3 (pc := 593) (d' := d - 1) (mc' := 84) (ms' := 1736) 8 g dL_law_593 cb_X7_sieve ml_L_216 mn_X7_sieve rfl mv_X7_sieve (Nat.le_of_ble_eq_true rfl) (md_oc m2) (Nat.le_of_ble_eq_true rfl) (by first | exact jl_d0 hd rfl | omega) (by first | exact Nat.le_of_ble_eq_true rfl | omega) (by first | exact Nat.le_of_ble_eq_true rfl | omega) ?_
    refine f_X7_sieve g (by first | exact jl_d1 hd rfl | omega) ab0 hL jJ.2.2.2 m2 (fun v2 h2 t0 t1 t2 q2 n2 y2 => sg_K1 ?_)
    refine st_as (fun H r => jk_unR I1.1 r) ?_
    obtain ⟨A2, J2⟩ : ∃ A2, jk_J w B M O S xs (jk_unt B h2) A2 := by
      by_cases hz : v1 = 0
      · obtain ⟨c1, c2⟩ := r1 hz
        have n1 := jk_n (k0) hz (by decide)
        have n2 := jk_n (k1 n1) hz (by decide)
        obtain ⟨d1, d2⟩ := q2 (t2 n1 n2)
        exact ⟨_, jk_JM I1 y2 c2 d2 (ok_sieve jJ.2.2.2 hL n1 n2)⟩
      · refine ⟨A, jk_JM I1 y2 (x1 hz) (n2 (fun hm => hz ?_)) jJ.2.2.2⟩
        have m1 := jk_n (t0) hm (by decide)
        have m2 := jk_n (t1 m1) hm (by decide)
        exact k2 m1 m2
    clear k0 t0 k1 t1 k2 t2
    have I2 := J2.1
    refine sg_istore (pc := 596) dL_law_596 (by decide) ?_
    refine sg_goto (pc := 598) (tgt := 2465) dL_law_598 (by decide) ?_
    refine sg_lsub (lv' := [(0, _), (1, _), (2, _), (3, _), (4, _)]) ⟨rfl, rfl, rfl, rfl, rfl, trivial⟩ ?_
    exact K _ _ _ _ J2 (by omega) (by omega)
  · refine sg_iconst (pc := 555) (z := 1) dL_law_555 (by decide) ?_
    refine sg_goto (pc := 556) (tgt := 560) dL_law_556 (by decide) ?_
    refine sg_aload_n (pc := 560) (j := 3) dL_law_560 rfl rfl ?_
    obtain ⟨L, hL⟩ : ∃ X, fa_L A p1.toNat = X := ⟨_, rfl⟩
    refine st_cS5 (pc := 561) (d' := d - 1) (mc' := 8) (ms' := 48) g dL_law_561 cb_L_sieve cw_L_sieve ml_L_213 ms_L_sieve (Nat.le_of_ble_eq_true rfl) (by first | exact jl_d0 hd rfl | omega) (by first | exact Nat.le_of_ble_eq_true rfl | omega) (by first | exact Nat.le_of_ble_eq_true rfl | omega) ?_
    refine f_L_sieve g nc (by omega) jJ.1 jJ.2.1 jJ.2.2.2 hL (fun v1 h1 I1 X1 k0 k1 k2 x1 r1 => sg_K1 ?_)
    refine sg_istore (pc := 564) dL_law_564 (by decide) ?_
    refine sg_aload_n (pc := 566) (j := 2) dL_law_566 rfl rfl ?_
    refine sg_aload_n (pc := 567) (j := 0) dL_law_567 rfl rfl ?_
    refine sg_iload (pc := 568) dL_law_568 rfl ?_
    refine sg_iconst (pc := 570) (z := 1) dL_law_570 (by decide) ?_
    first | refine sg_iaddB (pc := 571) dL_law_571 (by omega) (by omega) ?_ | refine sg_iadd (pc := 571) dL_law_571 ?_
    refine sg_iald (pc := 572) dL_law_572 I1.2.2.2.2.2.2.2.2.2 rfl (by omega) (jk_x (by omega) (by omega)) ?_
    try rw [e1]
    try rw [e2]
    try rw [e3]
    try rw [e4]
    try rw [e5]
    refine sg_aload_n (pc := 573) (j := 0) dL_law_573 rfl rfl ?_
    refine sg_iload (pc := 574) dL_law_574 rfl ?_
    refine sg_iconst (pc := 576) (z := 2) dL_law_576 (by decide) ?_
    first | refine sg_iaddB (pc := 577) dL_law_577 (by omega) (by omega) ?_ | refine sg_iadd (pc := 577) dL_law_577 ?_
    refine sg_iald (pc := 578) dL_law_578 I1.2.2.2.2.2.2.2.2.2 rfl (by omega) (jk_x (by omega) (by omega)) ?_
    try rw [e1]
    try rw [e2]
    try rw [e3]
    try rw [e4]
    try rw [e5]
    refine sg_aload_n (pc := 579) (j := 0) dL_law_579 rfl rfl ?_
    refine sg_iload (pc := 580) dL_law_580 rfl ?_
    refine sg_iconst (pc := 582) (z := 3) dL_law_582 (by decide) ?_
    first | refine sg_iaddB (pc := 583) dL_law_583 (by omega) (by omega) ?_ | refine sg_iadd (pc := 583) dL_law_583 ?_
    refine sg_iald (pc := 584) dL_law_584 I1.2.2.2.2.2.2.2.2.2 rfl (by omega) (jk_x (by omega) (by omega)) ?_
    try rw [e1]
    try rw [e2]
    try rw [e3]
    try rw [e4]
    try rw [e5]
    refine sg_if_eq (pc := 585) (tgt := 592) dL_law_585 (by decide) (fun c585 => absurd c585 c552) (fun c585 => ?_)
    refine sg_iconst (pc := 588) (z := 1) dL_law_588 (by decide) ?_
    refine sg_goto (pc := 589) (tgt := 593) dL_law_589 (by decide) ?_
    refine st_as (fun H r => jk_tgR (B := B) r) ?_
    have m2 := jk_Im I1
    have ab0 := jk_Jt jJ I1 X1
    refine sg_cE3 (pc := 593) (d' := d - 1) (mc' := 84) (ms' := 1736) 8 g dL_law_593 cb_X7_sieve ml_L_216 mn_X7_sieve rfl mv_X7_sieve (Nat.le_of_ble_eq_true rfl) (md_oc m2) (Nat.le_of_ble_eq_true rfl) (by first | exact jl_d0 hd rfl | omega) (by first | exact Nat.le_of_ble_eq_true rfl | omega) (by first | exact Nat.le_of_ble_eq_true rfl | omega) ?_
    refine f_X7_sieve g (by first | exact jl_d1 hd rfl | omega) ab0 hL jJ.2.2.2 m2 (fun v2 h2 t0 t1 t2 q2 n2 y2 => sg_K1 ?_)
    refine st_as (fun H r => jk_unR I1.1 r) ?_
    obtain ⟨A2, J2⟩ : ∃ A2, jk_J w B M O S xs (jk_unt B h2) A2 := by
      by_cases hz : v1 = 0
      · obtain ⟨c1, c2⟩ := r1 hz
        have n1 := jk_n (k0) hz (by decide)
        have n2 := jk_n (k1 n1) hz (by decide)
        obtain ⟨d1, d2⟩ := q2 (t2 n1 n2)
        exact ⟨_, jk_JM I1 y2 c2 d2 (ok_sieve jJ.2.2.2 hL n1 n2)⟩
      · refine ⟨A, jk_JM I1 y2 (x1 hz) (n2 (fun hm => hz ?_)) jJ.2.2.2⟩
        have m1 := jk_n (t0) hm (by decide)
        have m2 := jk_n (t1 m1) hm (by decide)
        exact k2 m1 m2
    clear k0 t0 k1 t1 k2 t2
    have I2 := J2.1
    refine sg_istore (pc := 596) dL_law_596 (by decide) ?_
    refine sg_goto (pc := 598) (tgt := 2465) dL_law_598 (by decide) ?_
    refine sg_lsub (lv' := [(0, _), (1, _), (2, _), (3, _), (4, _)]) ⟨rfl, rfl, rfl, rfl, rfl, trivial⟩ ?_
    exact K _ _ _ _ J2 (by omega) (by omega)

set_option maxRecDepth 100000 in
set_option maxHeartbeats 1000000 in
theorem lw_c6 {w : sg_W} {Q : sg_O → sg_H → Prop} {h : sg_H} (g : sg_G w) (nc : jk_C w) (hJ : jz w) {d mc ms : Nat} (hd : 30 ≤ d) {B M O S j k n : Nat} {xs : List Int} {A : fa_A} (jJ : jk_J w B M O S xs h A) (hj : 6 * j + 6 ≤ xs.length) (hl : xs.length ≤ 3072) (hk : k + 1030 ≤ mc) (hn : n + (48 + 56) ≤ ms) (K : ∀ (h' : sg_H) (k' n' : Nat) (A' : fa_A), jk_J w B M O S xs h' A' → k' ≤ k + 1030 → n' ≤ n + (48 + 56) → sg_R w mi_L_law d mc ms Q 2465 [(0, sg_r S), (1, sg_r B), (2, sg_r M), (3, sg_r O), (4, sg_i (6 * (j : Int)))] [] h' k' n') : sg_R w mi_L_law d mc ms Q 601 [(0, sg_r S), (1, sg_r B), (2, sg_r M), (3, sg_r O), (4, sg_i (6 * (j : Int)))] [] h k n := by
  obtain ⟨p1, e1⟩ : ∃ p, xs.getD (6 * (j : Int) + 1).toNat 0 = p := ⟨_, rfl⟩
  obtain ⟨p2, e2⟩ : ∃ p, xs.getD (6 * (j : Int) + 2).toNat 0 = p := ⟨_, rfl⟩
  obtain ⟨p3, e3⟩ : ∃ p, xs.getD (6 * (j : Int) + 3).toNat 0 = p := ⟨_, rfl⟩
  obtain ⟨p4, e4⟩ : ∃ p, xs.getD (6 * (j : Int) + 4).toNat 0 = p := ⟨_, rfl⟩
  obtain ⟨p5, e5⟩ : ∃ p, xs.getD (6 * (j : Int) + 5).toNat 0 = p := ⟨_, rfl⟩
  refine sg_aload_n (pc := 601) (j := 1) dL_law_601 rfl rfl ?_
  refine sg_aload_n (pc := 602) (j := 0) dL_law_602 rfl rfl ?_
  refine sg_iload (pc := 603) dL_law_603 rfl ?_
  refine sg_iconst (pc := 605) (z := 1) dL_law_605 (by decide) ?_
  first | refine sg_iaddB (pc := 606) dL_law_606 (by omega) (by omega) ?_ | refine sg_iadd (pc := 606) dL_law_606 ?_
  refine sg_iald (pc := 607) dL_law_607 jJ.1.2.2.2.2.2.2.2.2.2 rfl (by omega) (jk_x (by omega) (by omega)) ?_
  try rw [e1]
  try rw [e2]
  try rw [e3]
  try rw [e4]
  try rw [e5]
  refine sg_aload_n (pc := 608) (j := 3) dL_law_608 rfl rfl ?_
  obtain ⟨L, hL⟩ : ∃ X, fa_L A p1.toNat = X := ⟨_, rfl⟩
  refine st_cS3 (pc := 609) (d' := d - 1) (mc' := 8) (ms' := 48) g dL_law_609 cb_L_strip cw_L_strip ml_L_217 ms_L_strip (Nat.le_of_ble_eq_true rfl) (by first | exact jl_d0 hd rfl | omega) (by first | exact Nat.le_of_ble_eq_true rfl | omega) (by first | exact Nat.le_of_ble_eq_true rfl | omega) ?_
  refine f_L_strip g nc (by omega) jJ.1 jJ.2.1 jJ.2.2.2 hL (fun v1 h1 I1 X1 k0 k1 x1 r1 => sg_K1 ?_)
  refine sg_istore (pc := 612) dL_law_612 (by decide) ?_
  refine sg_aload_n (pc := 614) (j := 2) dL_law_614 rfl rfl ?_
  refine sg_aload_n (pc := 615) (j := 0) dL_law_615 rfl rfl ?_
  refine sg_iload (pc := 616) dL_law_616 rfl ?_
  refine sg_iconst (pc := 618) (z := 1) dL_law_618 (by decide) ?_
  first | refine sg_iaddB (pc := 619) dL_law_619 (by omega) (by omega) ?_ | refine sg_iadd (pc := 619) dL_law_619 ?_
  refine sg_iald (pc := 620) dL_law_620 I1.2.2.2.2.2.2.2.2.2 rfl (by omega) (jk_x (by omega) (by omega)) ?_
  try rw [e1]
  try rw [e2]
  try rw [e3]
  try rw [e4]
  try rw [e5]
  refine st_as (fun H r => jk_tgR (B := B) r) ?_
  have m2 := jk_Im I1
  have ab0 := jk_Jt jJ I1 X1
  refine sg_cE1 (pc := 621) (d' := d - 1) (mc' := 3) (ms' := 56) 8 g dL_law_621 cb_X7_strip ml_L_219 mn_X7_strip rfl mv_X7_strip (Nat.le_of_ble_eq_true rfl) (md_oc m2) (Nat.le_of_ble_eq_true rfl) (by first | exact jl_d0 hd rfl | omega) (by first | exact Nat.le_of_ble_eq_true rfl | omega) (by first | exact Nat.le_of_ble_eq_true rfl | omega) ?_
  refine f_X7_strip g (by first | exact jl_d1 hd rfl | omega) ab0 hL jJ.2.2.2 m2 (fun v2 h2 t0 t1 q2 n2 y2 => sg_K1 ?_)
  refine st_as (fun H r => jk_unR I1.1 r) ?_
  obtain ⟨A2, J2⟩ : ∃ A2, jk_J w B M O S xs (jk_unt B h2) A2 := by
    by_cases hz : v1 = 0
    · obtain ⟨c1, c2⟩ := r1 hz
      have n1 := jk_n (k0) hz (by decide)
      obtain ⟨d1, d2⟩ := q2 (t1 n1)
      exact ⟨_, jk_JM I1 y2 c2 d2 (ok_strip jJ.2.2.2 hL n1)⟩
    · refine ⟨A, jk_JM I1 y2 (x1 hz) (n2 (fun hm => hz ?_)) jJ.2.2.2⟩
      have m1 := jk_n (t0) hm (by decide)
      exact k1 m1
  clear k0 t0 k1 t1
  have I2 := J2.1
  refine sg_istore (pc := 624) dL_law_624 (by decide) ?_
  refine sg_goto (pc := 626) (tgt := 2465) dL_law_626 (by decide) ?_
  refine sg_lsub (lv' := [(0, _), (1, _), (2, _), (3, _), (4, _)]) ⟨rfl, rfl, rfl, rfl, rfl, trivial⟩ ?_
  exact K _ _ _ _ J2 (by omega) (by omega)

set_option maxRecDepth 100000 in
set_option maxHeartbeats 1000000 in
theorem lw_c7 {w : sg_W} {Q : sg_O → sg_H → Prop} {h : sg_H} (g : sg_G w) (nc : jk_C w) (hJ : jz w) {d mc ms : Nat} (hd : 30 ≤ d) {B M O S j k n : Nat} {xs : List Int} {A : fa_A} (jJ : jk_J w B M O S xs h A) (hj : 6 * j + 6 ≤ xs.length) (hl : xs.length ≤ 3072) (hk : k + 1030 ≤ mc) (hn : n + (48 + 56) ≤ ms) (K : ∀ (h' : sg_H) (k' n' : Nat) (A' : fa_A), jk_J w B M O S xs h' A' → k' ≤ k + 1030 → n' ≤ n + (48 + 56) → sg_R w mi_L_law d mc ms Q 2465 [(0, sg_r S), (1, sg_r B), (2, sg_r M), (3, sg_r O), (4, sg_i (6 * (j : Int)))] [] h' k' n') : sg_R w mi_L_law d mc ms Q 629 [(0, sg_r S), (1, sg_r B), (2, sg_r M), (3, sg_r O), (4, sg_i (6 * (j : Int)))] [] h k n := by
  obtain ⟨p1, e1⟩ : ∃ p, xs.getD (6 * (j : Int) + 1).toNat 0 = p := ⟨_, rfl⟩
  obtain ⟨p2, e2⟩ : ∃ p, xs.getD (6 * (j : Int) + 2).toNat 0 = p := ⟨_, rfl⟩
  obtain ⟨p3, e3⟩ : ∃ p, xs.getD (6 * (j : Int) + 3).toNat 0 = p := ⟨_, rfl⟩
  obtain ⟨p4, e4⟩ : ∃ p, xs.getD (6 * (j : Int) + 4).toNat 0 = p := ⟨_, rfl⟩
  obtain ⟨p5, e5⟩ : ∃ p, xs.getD (6 * (j : Int) + 5).toNat 0 = p := ⟨_, rfl⟩
  refine sg_aload_n (pc := 629) (j := 1) dL_law_629 rfl rfl ?_
  refine sg_aload_n (pc := 630) (j := 0) dL_law_630 rfl rfl ?_
  refine sg_iload (pc := 631) dL_law_631 rfl ?_
  refine sg_iconst (pc := 633) (z := 1) dL_law_633 (by decide) ?_
  first | refine sg_iaddB (pc := 634) dL_law_634 (by omega) (by omega) ?_ | refine sg_iadd (pc := 634) dL_law_634 ?_
  refine sg_iald (pc := 635) dL_law_635 jJ.1.2.2.2.2.2.2.2.2.2 rfl (by omega) (jk_x (by omega) (by omega)) ?_
  try rw [e1]
  try rw [e2]
  try rw [e3]
  try rw [e4]
  try rw [e5]
  refine sg_aload_n (pc := 636) (j := 3) dL_law_636 rfl rfl ?_
  obtain ⟨L, hL⟩ : ∃ X, fa_L A p1.toNat = X := ⟨_, rfl⟩
  refine st_cS3 (pc := 637) (d' := d - 1) (mc' := 8) (ms' := 48) g dL_law_637 cb_L_turn cw_L_turn ml_L_220 ms_L_turn (Nat.le_of_ble_eq_true rfl) (by first | exact jl_d0 hd rfl | omega) (by first | exact Nat.le_of_ble_eq_true rfl | omega) (by first | exact Nat.le_of_ble_eq_true rfl | omega) ?_
  refine f_L_turn g nc (by omega) jJ.1 jJ.2.1 jJ.2.2.2 hL (fun v1 h1 I1 X1 k0 k1 x1 r1 => sg_K1 ?_)
  refine sg_istore (pc := 640) dL_law_640 (by decide) ?_
  refine sg_aload_n (pc := 642) (j := 2) dL_law_642 rfl rfl ?_
  refine sg_aload_n (pc := 643) (j := 0) dL_law_643 rfl rfl ?_
  refine sg_iload (pc := 644) dL_law_644 rfl ?_
  refine sg_iconst (pc := 646) (z := 1) dL_law_646 (by decide) ?_
  first | refine sg_iaddB (pc := 647) dL_law_647 (by omega) (by omega) ?_ | refine sg_iadd (pc := 647) dL_law_647 ?_
  refine sg_iald (pc := 648) dL_law_648 I1.2.2.2.2.2.2.2.2.2 rfl (by omega) (jk_x (by omega) (by omega)) ?_
  try rw [e1]
  try rw [e2]
  try rw [e3]
  try rw [e4]
  try rw [e5]
  refine st_as (fun H r => jk_tgR (B := B) r) ?_
  have m2 := jk_Im I1
  have ab0 := jk_Jt jJ I1 X1
  refine sg_cE1 (pc := 649) (d' := d - 1) (mc' := 3) (ms' := 56) 8 g dL_law_649 cb_X7_turn ml_L_222 mn_X7_turn rfl mv_X7_turn (Nat.le_of_ble_eq_true rfl) (md_oc m2) (Nat.le_of_ble_eq_true rfl) (by first | exact jl_d0 hd rfl | omega) (by first | exact Nat.le_of_ble_eq_true rfl | omega) (by first | exact Nat.le_of_ble_eq_true rfl | omega) ?_
  refine f_X7_turn g (by first | exact jl_d1 hd rfl | omega) ab0 hL jJ.2.2.2 m2 (fun v2 h2 t0 t1 q2 n2 y2 => sg_K1 ?_)
  refine st_as (fun H r => jk_unR I1.1 r) ?_
  obtain ⟨A2, J2⟩ : ∃ A2, jk_J w B M O S xs (jk_unt B h2) A2 := by
    by_cases hz : v1 = 0
    · obtain ⟨c1, c2⟩ := r1 hz
      have n1 := jk_n (k0) hz (by decide)
      obtain ⟨d1, d2⟩ := q2 (t1 n1)
      exact ⟨_, jk_JM I1 y2 c2 d2 (ok_turn jJ.2.2.2 hL n1)⟩
    · refine ⟨A, jk_JM I1 y2 (x1 hz) (n2 (fun hm => hz ?_)) jJ.2.2.2⟩
      have m1 := jk_n (t0) hm (by decide)
      exact k1 m1
  clear k0 t0 k1 t1
  have I2 := J2.1
  refine sg_istore (pc := 652) dL_law_652 (by decide) ?_
  refine sg_goto (pc := 654) (tgt := 2465) dL_law_654 (by decide) ?_
  refine sg_lsub (lv' := [(0, _), (1, _), (2, _), (3, _), (4, _)]) ⟨rfl, rfl, rfl, rfl, rfl, trivial⟩ ?_
  exact K _ _ _ _ J2 (by omega) (by omega)

set_option maxRecDepth 100000 in
set_option maxHeartbeats 1000000 in
theorem lw_c8 {w : sg_W} {Q : sg_O → sg_H → Prop} {h : sg_H} (g : sg_G w) (nc : jk_C w) (hJ : jz w) {d mc ms : Nat} (hd : 30 ≤ d) {B M O S j k n : Nat} {xs : List Int} {A : fa_A} (jJ : jk_J w B M O S xs h A) (hj : 6 * j + 6 ≤ xs.length) (hl : xs.length ≤ 3072) (hk : k + 1030 ≤ mc) (hn : n + (48 + 560) ≤ ms) (K : ∀ (h' : sg_H) (k' n' : Nat) (A' : fa_A), jk_J w B M O S xs h' A' → k' ≤ k + 1030 → n' ≤ n + (48 + 560) → sg_R w mi_L_law d mc ms Q 2465 [(0, sg_r S), (1, sg_r B), (2, sg_r M), (3, sg_r O), (4, sg_i (6 * (j : Int)))] [] h' k' n') : sg_R w mi_L_law d mc ms Q 657 [(0, sg_r S), (1, sg_r B), (2, sg_r M), (3, sg_r O), (4, sg_i (6 * (j : Int)))] [] h k n := by
  obtain ⟨p1, e1⟩ : ∃ p, xs.getD (6 * (j : Int) + 1).toNat 0 = p := ⟨_, rfl⟩
  obtain ⟨p2, e2⟩ : ∃ p, xs.getD (6 * (j : Int) + 2).toNat 0 = p := ⟨_, rfl⟩
  obtain ⟨p3, e3⟩ : ∃ p, xs.getD (6 * (j : Int) + 3).toNat 0 = p := ⟨_, rfl⟩
  obtain ⟨p4, e4⟩ : ∃ p, xs.getD (6 * (j : Int) + 4).toNat 0 = p := ⟨_, rfl⟩
  obtain ⟨p5, e5⟩ : ∃ p, xs.getD (6 * (j : Int) + 5).toNat 0 = p := ⟨_, rfl⟩
  refine sg_aload_n (pc := 657) (j := 1) dL_law_657 rfl rfl ?_
  refine sg_aload_n (pc := 658) (j := 0) dL_law_658 rfl rfl ?_
  refine sg_iload (pc := 659) dL_law_659 rfl ?_
  refine sg_iconst (pc := 661) (z := 1) dL_law_661 (by decide) ?_
  first | refine sg_iaddB (pc := 662) dL_law_662 (by omega) (by omega) ?_ | refine sg_iadd (pc := 662) dL_law_662 ?_
  refine sg_iald (pc := 663) dL_law_663 jJ.1.2.2.2.2.2.2.2.2.2 rfl (by omega) (jk_x (by omega) (by omega)) ?_
  try rw [e1]
  try rw [e2]
  try rw [e3]
  try rw [e4]
  try rw [e5]
  refine sg_aload_n (pc := 664) (j := 0) dL_law_664 rfl rfl ?_
  refine sg_iload (pc := 665) dL_law_665 rfl ?_
  refine sg_iconst (pc := 667) (z := 2) dL_law_667 (by decide) ?_
  first | refine sg_iaddB (pc := 668) dL_law_668 (by omega) (by omega) ?_ | refine sg_iadd (pc := 668) dL_law_668 ?_
  refine sg_iald (pc := 669) dL_law_669 jJ.1.2.2.2.2.2.2.2.2.2 rfl (by omega) (jk_x (by omega) (by omega)) ?_
  try rw [e1]
  try rw [e2]
  try rw [e3]
  try rw [e4]
  try rw [e5]
  refine sg_aload_n (pc := 670) (j := 0) dL_law_670 rfl rfl ?_
  refine sg_iload (pc := 671) dL_law_671 rfl ?_
  refine sg_iconst (pc := 673) (z := 3) dL_law_673 (by decide) ?_
  first | refine sg_iaddB (pc := 674) dL_law_674 (by omega) (by omega) ?_ | refine sg_iadd (pc := 674) dL_law_674 ?_
  refine sg_iald (pc := 675) dL_law_675 jJ.1.2.2.2.2.2.2.2.2.2 rfl (by omega) (jk_x (by omega) (by omega)) ?_
  try rw [e1]
  try rw [e2]
  try rw [e3]
  try rw [e4]
  try rw [e5]
  refine sg_aload_n (pc := 676) (j := 3) dL_law_676 rfl rfl ?_
  obtain ⟨L, hL⟩ : ∃ X, fa_L A p1.toNat = X := ⟨_, rfl⟩
  refine st_cS5 (pc := 677) (d' := d - 1) (mc' := 8) (ms' := 48) g dL_law_677 cb_L_write cw_L_write ml_L_223 ms_L_write (Nat.le_of_ble_eq_true rfl) (by first | exact jl_d0 hd rfl | omega) (by first | exact Nat.le_of_ble_eq_true rfl | omega) (by first | exact Nat.le_of_ble_eq_true rfl | omega) ?_
  refine f_L_write g nc (by omega) jJ.1 jJ.2.1 jJ.2.2.2 hL (fun v1 h1 I1 X1 k0 k1 k2 x1 r1 => sg_K1 ?_)
  refine sg_istore (pc := 680) dL_law_680 (by decide) ?_
  refine sg_aload_n (pc := 682) (j := 2) dL_law_682 rfl rfl ?_
  refine sg_aload_n (pc := 683) (j := 0) dL_law_683 rfl rfl ?_
  refine sg_iload (pc := 684) dL_law_684 rfl ?_
  refine sg_iconst (pc := 686) (z := 1) dL_law_686 (by decide) ?_
  first | refine sg_iaddB (pc := 687) dL_law_687 (by omega) (by omega) ?_ | refine sg_iadd (pc := 687) dL_law_687 ?_
  refine sg_iald (pc := 688) dL_law_688 I1.2.2.2.2.2.2.2.2.2 rfl (by omega) (jk_x (by omega) (by omega)) ?_
  try rw [e1]
  try rw [e2]
  try rw [e3]
  try rw [e4]
  try rw [e5]
  refine sg_aload_n (pc := 689) (j := 0) dL_law_689 rfl rfl ?_
  refine sg_iload (pc := 690) dL_law_690 rfl ?_
  refine sg_iconst (pc := 692) (z := 2) dL_law_692 (by decide) ?_
  first | refine sg_iaddB (pc := 693) dL_law_693 (by omega) (by omega) ?_ | refine sg_iadd (pc := 693) dL_law_693 ?_
  refine sg_iald (pc := 694) dL_law_694 I1.2.2.2.2.2.2.2.2.2 rfl (by omega) (jk_x (by omega) (by omega)) ?_
  try rw [e1]
  try rw [e2]
  try rw [e3]
  try rw [e4]
  try rw [e5]
  refine sg_aload_n (pc := 695) (j := 0) dL_law_695 rfl rfl ?_
  refine sg_iload (pc := 696) dL_law_696 rfl ?_
  refine sg_iconst (pc := 698) (z := 3) dL_law_698 (by decide) ?_
  first | refine sg_iaddB (pc := 699) dL_law_699 (by omega) (by omega) ?_ | refine sg_iadd (pc := 699) dL_law_699 ?_
  refine sg_iald (pc := 700) dL_law_700 I1.2.2.2.2.2.2.2.2.2 rfl (by omega) (jk_x (by omega) (by omega)) ?_
  try rw [e1]
  try rw [e2]
  try rw [e3]
  try rw [e4]
  try rw [e5]
  refine st_as (fun H r => jk_tgR (B := B) r) ?_
  have m2 := jk_Im I1
  have ab0 := jk_Jt jJ I1 X1
  refine sg_cE3 (pc := 701) (d' := d - 1) (mc' := 44) (ms' := 560) 8 g dL_law_701 cb_X7_write ml_L_226 mn_X7_write rfl mv_X7_write (Nat.le_of_ble_eq_true rfl) (md_oc m2) (Nat.le_of_ble_eq_true rfl) (by first | exact jl_d0 hd rfl | omega) (by first | exact Nat.le_of_ble_eq_true rfl | omega) (by first | exact Nat.le_of_ble_eq_true rfl | omega) ?_
  refine f_X7_write g (by first | exact jl_d1 hd rfl | omega) ab0 hL jJ.2.2.2 m2 (fun v2 h2 t0 t1 t2 q2 n2 y2 => sg_K1 ?_)
  refine st_as (fun H r => jk_unR I1.1 r) ?_
  obtain ⟨A2, J2⟩ : ∃ A2, jk_J w B M O S xs (jk_unt B h2) A2 := by
    by_cases hz : v1 = 0
    · obtain ⟨c1, c2⟩ := r1 hz
      have n1 := jk_n (k0) hz (by decide)
      have n2 := jk_n (k1 n1) hz (by decide)
      obtain ⟨d1, d2⟩ := q2 (t2 n1 n2)
      exact ⟨_, jk_JM I1 y2 c2 d2 (ok_write jJ.2.2.2 hL n1 n2)⟩
    · refine ⟨A, jk_JM I1 y2 (x1 hz) (n2 (fun hm => hz ?_)) jJ.2.2.2⟩
      have m1 := jk_n (t0) hm (by decide)
      have m2 := jk_n (t1 m1) hm (by decide)
      exact k2 m1 m2
  clear k0 t0 k1 t1 k2 t2
  have I2 := J2.1
  refine sg_istore (pc := 704) dL_law_704 (by decide) ?_
  refine sg_goto (pc := 706) (tgt := 2465) dL_law_706 (by decide) ?_
  refine sg_lsub (lv' := [(0, _), (1, _), (2, _), (3, _), (4, _)]) ⟨rfl, rfl, rfl, rfl, rfl, trivial⟩ ?_
  exact K _ _ _ _ J2 (by omega) (by omega)

set_option maxRecDepth 100000 in
set_option maxHeartbeats 1000000 in
theorem lw_c9 {w : sg_W} {Q : sg_O → sg_H → Prop} {h : sg_H} (g : sg_G w) (nc : jk_C w) (hJ : jz w) {d mc ms : Nat} (hd : 30 ≤ d) {B M O S j k n : Nat} {xs : List Int} {A : fa_A} (jJ : jk_J w B M O S xs h A) (hj : 6 * j + 6 ≤ xs.length) (hl : xs.length ≤ 3072) (hk : k + 1030 ≤ mc) (hn : n + (48 + 56) ≤ ms) (K : ∀ (h' : sg_H) (k' n' : Nat) (A' : fa_A), jk_J w B M O S xs h' A' → k' ≤ k + 1030 → n' ≤ n + (48 + 56) → sg_R w mi_L_law d mc ms Q 2465 [(0, sg_r S), (1, sg_r B), (2, sg_r M), (3, sg_r O), (4, sg_i (6 * (j : Int)))] [] h' k' n') : sg_R w mi_L_law d mc ms Q 709 [(0, sg_r S), (1, sg_r B), (2, sg_r M), (3, sg_r O), (4, sg_i (6 * (j : Int)))] [] h k n := by
  obtain ⟨p1, e1⟩ : ∃ p, xs.getD (6 * (j : Int) + 1).toNat 0 = p := ⟨_, rfl⟩
  obtain ⟨p2, e2⟩ : ∃ p, xs.getD (6 * (j : Int) + 2).toNat 0 = p := ⟨_, rfl⟩
  obtain ⟨p3, e3⟩ : ∃ p, xs.getD (6 * (j : Int) + 3).toNat 0 = p := ⟨_, rfl⟩
  obtain ⟨p4, e4⟩ : ∃ p, xs.getD (6 * (j : Int) + 4).toNat 0 = p := ⟨_, rfl⟩
  obtain ⟨p5, e5⟩ : ∃ p, xs.getD (6 * (j : Int) + 5).toNat 0 = p := ⟨_, rfl⟩
  refine sg_aload_n (pc := 709) (j := 1) dL_law_709 rfl rfl ?_
  refine sg_aload_n (pc := 710) (j := 0) dL_law_710 rfl rfl ?_
  refine sg_iload (pc := 711) dL_law_711 rfl ?_
  refine sg_iconst (pc := 713) (z := 1) dL_law_713 (by decide) ?_
  first | refine sg_iaddB (pc := 714) dL_law_714 (by omega) (by omega) ?_ | refine sg_iadd (pc := 714) dL_law_714 ?_
  refine sg_iald (pc := 715) dL_law_715 jJ.1.2.2.2.2.2.2.2.2.2 rfl (by omega) (jk_x (by omega) (by omega)) ?_
  try rw [e1]
  try rw [e2]
  try rw [e3]
  try rw [e4]
  try rw [e5]
  refine sg_aload_n (pc := 716) (j := 0) dL_law_716 rfl rfl ?_
  refine sg_iload (pc := 717) dL_law_717 rfl ?_
  refine sg_iconst (pc := 719) (z := 2) dL_law_719 (by decide) ?_
  first | refine sg_iaddB (pc := 720) dL_law_720 (by omega) (by omega) ?_ | refine sg_iadd (pc := 720) dL_law_720 ?_
  refine sg_iald (pc := 721) dL_law_721 jJ.1.2.2.2.2.2.2.2.2.2 rfl (by omega) (jk_x (by omega) (by omega)) ?_
  try rw [e1]
  try rw [e2]
  try rw [e3]
  try rw [e4]
  try rw [e5]
  refine sg_aload_n (pc := 722) (j := 3) dL_law_722 rfl rfl ?_
  obtain ⟨L, hL⟩ : ∃ X, fa_L A p1.toNat = X := ⟨_, rfl⟩
  obtain ⟨Z, hZ⟩ : ∃ X, fa_L A p2.toNat = X := ⟨_, rfl⟩
  refine st_cS4 (pc := 723) (d' := d - 1) (mc' := 8) (ms' := 48) g dL_law_723 cb_L_spell cw_L_spell ml_L_227 ms_L_spell (Nat.le_of_ble_eq_true rfl) (by first | exact jl_d0 hd rfl | omega) (by first | exact Nat.le_of_ble_eq_true rfl | omega) (by first | exact Nat.le_of_ble_eq_true rfl | omega) ?_
  refine f_L_spell g nc (by omega) jJ.1 jJ.2.1 jJ.2.2.2 hL hZ (fun v1 h1 I1 X1 k0 k1 k2 x1 r1 => sg_K1 ?_)
  refine sg_istore (pc := 726) dL_law_726 (by decide) ?_
  refine sg_aload_n (pc := 728) (j := 2) dL_law_728 rfl rfl ?_
  refine sg_aload_n (pc := 729) (j := 0) dL_law_729 rfl rfl ?_
  refine sg_iload (pc := 730) dL_law_730 rfl ?_
  refine sg_iconst (pc := 732) (z := 1) dL_law_732 (by decide) ?_
  first | refine sg_iaddB (pc := 733) dL_law_733 (by omega) (by omega) ?_ | refine sg_iadd (pc := 733) dL_law_733 ?_
  refine sg_iald (pc := 734) dL_law_734 I1.2.2.2.2.2.2.2.2.2 rfl (by omega) (jk_x (by omega) (by omega)) ?_
  try rw [e1]
  try rw [e2]
  try rw [e3]
  try rw [e4]
  try rw [e5]
  refine sg_aload_n (pc := 735) (j := 0) dL_law_735 rfl rfl ?_
  refine sg_iload (pc := 736) dL_law_736 rfl ?_
  refine sg_iconst (pc := 738) (z := 2) dL_law_738 (by decide) ?_
  first | refine sg_iaddB (pc := 739) dL_law_739 (by omega) (by omega) ?_ | refine sg_iadd (pc := 739) dL_law_739 ?_
  refine sg_iald (pc := 740) dL_law_740 I1.2.2.2.2.2.2.2.2.2 rfl (by omega) (jk_x (by omega) (by omega)) ?_
  try rw [e1]
  try rw [e2]
  try rw [e3]
  try rw [e4]
  try rw [e5]
  refine st_as (fun H r => jk_tgR (B := B) r) ?_
  have m2 := jk_Im I1
  have ab0 := jk_Jt jJ I1 X1
  refine sg_cE2 (pc := 741) (d' := d - 1) (mc' := 3) (ms' := 56) 8 g dL_law_741 cb_X7_spell ml_L_229 mn_X7_spell rfl mv_X7_spell (Nat.le_of_ble_eq_true rfl) (md_oc m2) (Nat.le_of_ble_eq_true rfl) (by first | exact jl_d0 hd rfl | omega) (by first | exact Nat.le_of_ble_eq_true rfl | omega) (by first | exact Nat.le_of_ble_eq_true rfl | omega) ?_
  refine f_X7_spell g (by first | exact jl_d1 hd rfl | omega) ab0 hL hZ jJ.2.2.2 m2 (fun v2 h2 t0 t1 t2 q2 n2 y2 => sg_K1 ?_)
  refine st_as (fun H r => jk_unR I1.1 r) ?_
  obtain ⟨A2, J2⟩ : ∃ A2, jk_J w B M O S xs (jk_unt B h2) A2 := by
    by_cases hz : v1 = 0
    · obtain ⟨c1, c2⟩ := r1 hz
      have n1 := jk_n (k0) hz (by decide)
      have n2 := jk_n (k1 n1) hz (by decide)
      obtain ⟨d1, d2⟩ := q2 (t2 n1 n2)
      exact ⟨_, jk_JM I1 y2 c2 d2 (ok_spell jJ.2.2.2 hL hZ n1 n2)⟩
    · refine ⟨A, jk_JM I1 y2 (x1 hz) (n2 (fun hm => hz ?_)) jJ.2.2.2⟩
      have m1 := jk_n (t0) hm (by decide)
      have m2 := jk_n (t1 m1) hm (by decide)
      exact k2 m1 m2
  clear k0 t0 k1 t1 k2 t2
  have I2 := J2.1
  refine sg_istore (pc := 744) dL_law_744 (by decide) ?_
  refine sg_goto (pc := 746) (tgt := 2465) dL_law_746 (by decide) ?_
  refine sg_lsub (lv' := [(0, _), (1, _), (2, _), (3, _), (4, _)]) ⟨rfl, rfl, rfl, rfl, rfl, trivial⟩ ?_
  exact K _ _ _ _ J2 (by omega) (by omega)

