set_option maxRecDepth 100000 in
set_option maxHeartbeats 1000000 in
theorem lw_c50 {w : sg_W} {Q : sg_O → sg_H → Prop} {h : sg_H} (g : sg_G w) (nc : jk_C w) (hJ : jz w) {d mc ms : Nat} (hd : 30 ≤ d) {B M O S j k n : Nat} {xs : List Int} {A : fa_A} (jJ : jk_J w B M O S xs h A) (hj : 6 * j + 6 ≤ xs.length) (hl : xs.length ≤ 3072) (hk : k + 1030 ≤ mc) (hn : n + (48 + 0) ≤ ms) (K : ∀ (h' : sg_H) (k' n' : Nat) (A' : fa_A), jk_J w B M O S xs h' A' → k' ≤ k + 1030 → n' ≤ n + (48 + 0) → sg_R w mi_L_law d mc ms Q 2472 [(0, sg_r S), (1, sg_r B), (2, sg_r M), (3, sg_r O), (4, sg_i (6 * (j : Int)))] [] h' k' n') : sg_R w mi_L_law d mc ms Q 2218 [(0, sg_r S), (1, sg_r B), (2, sg_r M), (3, sg_r O), (4, sg_i (6 * (j : Int)))] [] h k n := by
  obtain ⟨p1, e1⟩ : ∃ p, xs.getD (6 * (j : Int) + 1).toNat 0 = p := ⟨_, rfl⟩
  obtain ⟨p2, e2⟩ : ∃ p, xs.getD (6 * (j : Int) + 2).toNat 0 = p := ⟨_, rfl⟩
  obtain ⟨p3, e3⟩ : ∃ p, xs.getD (6 * (j : Int) + 3).toNat 0 = p := ⟨_, rfl⟩
  obtain ⟨p4, e4⟩ : ∃ p, xs.getD (6 * (j : Int) + 4).toNat 0 = p := ⟨_, rfl⟩
  obtain ⟨p5, e5⟩ : ∃ p, xs.getD (6 * (j : Int) + 5).toNat 0 = p := ⟨_, rfl⟩
  refine sg_aload_n (pc := 2218) (j := 1) dL_law_2218 rfl rfl ?_
  refine sg_aload_n (pc := 2219) (j := 0) dL_law_2219 rfl rfl ?_
  refine sg_iload (pc := 2220) dL_law_2220 rfl ?_
  refine sg_iconst (pc := 2222) (z := 1) dL_law_2222 (by decide) ?_
  first | refine sg_iaddB (pc := 2223) dL_law_2223 (by omega) (by omega) ?_ | refine sg_iadd (pc := 2223) dL_law_2223 ?_
  refine sg_iald (pc := 2224) dL_law_2224 jJ.1.2.2.2.2.2.2.2.2.2 rfl (by omega) (jk_x (by omega) (by omega)) ?_
  try rw [e1]
  try rw [e2]
  try rw [e3]
  try rw [e4]
  try rw [e5]
  refine sg_aload_n (pc := 2225) (j := 0) dL_law_2225 rfl rfl ?_
  refine sg_iload (pc := 2226) dL_law_2226 rfl ?_
  refine sg_iconst (pc := 2228) (z := 2) dL_law_2228 (by decide) ?_
  first | refine sg_iaddB (pc := 2229) dL_law_2229 (by omega) (by omega) ?_ | refine sg_iadd (pc := 2229) dL_law_2229 ?_
  refine sg_iald (pc := 2230) dL_law_2230 jJ.1.2.2.2.2.2.2.2.2.2 rfl (by omega) (jk_x (by omega) (by omega)) ?_
  try rw [e1]
  try rw [e2]
  try rw [e3]
  try rw [e4]
  try rw [e5]
  refine sg_aload_n (pc := 2231) (j := 3) dL_law_2231 rfl rfl ?_
  refine st_cS4 (pc := 2232) (d' := d - 1) (mc' := 8) (ms' := 48) g dL_law_2232 cb_L_compare cw_L_compare ml_L_358 ms_L_compare (Nat.le_of_ble_eq_true rfl) (by first | exact jl_d0 hd rfl | omega) (by first | exact Nat.le_of_ble_eq_true rfl | omega) (by first | exact Nat.le_of_ble_eq_true rfl | omega) ?_
  refine s_L_compare g nc (by omega) jJ.1 (fun v1 h1 I1 X1 F1 k1 o1 => sg_K1 ?_)
  refine sg_istore (pc := 2235) dL_law_2235 (by decide) ?_
  refine sg_aload_n (pc := 2237) (j := 2) dL_law_2237 rfl rfl ?_
  refine sg_aload_n (pc := 2238) (j := 0) dL_law_2238 rfl rfl ?_
  refine sg_iload (pc := 2239) dL_law_2239 rfl ?_
  refine sg_iconst (pc := 2241) (z := 1) dL_law_2241 (by decide) ?_
  first | refine sg_iaddB (pc := 2242) dL_law_2242 (by omega) (by omega) ?_ | refine sg_iadd (pc := 2242) dL_law_2242 ?_
  refine sg_iald (pc := 2243) dL_law_2243 I1.2.2.2.2.2.2.2.2.2 rfl (by omega) (jk_x (by omega) (by omega)) ?_
  try rw [e1]
  try rw [e2]
  try rw [e3]
  try rw [e4]
  try rw [e5]
  refine sg_aload_n (pc := 2244) (j := 0) dL_law_2244 rfl rfl ?_
  refine sg_iload (pc := 2245) dL_law_2245 rfl ?_
  refine sg_iconst (pc := 2247) (z := 2) dL_law_2247 (by decide) ?_
  first | refine sg_iaddB (pc := 2248) dL_law_2248 (by omega) (by omega) ?_ | refine sg_iadd (pc := 2248) dL_law_2248 ?_
  refine sg_iald (pc := 2249) dL_law_2249 I1.2.2.2.2.2.2.2.2.2 rfl (by omega) (jk_x (by omega) (by omega)) ?_
  try rw [e1]
  try rw [e2]
  try rw [e3]
  try rw [e4]
  try rw [e5]
  refine st_as (fun H r => jk_tgR (B := B) r) ?_
  have m2 := jk_Im I1
  have ab0 := jk_Jt jJ I1 X1
  refine sg_cE2 (pc := 2250) (d' := d - 1) (mc' := 0) (ms' := 0) 8 g dL_law_2250 cb_X7_compare ml_L_360 mn_X7_compare rfl mv_X7_compare (Nat.le_of_ble_eq_true rfl) (md_oc m2) (Nat.le_of_ble_eq_true rfl) (by first | exact jl_d0 hd rfl | omega) (by first | exact Nat.le_of_ble_eq_true rfl | omega) (by first | exact Nat.le_of_ble_eq_true rfl | omega) ?_
  refine s_X7_compare g (by first | exact jl_d1 hd rfl | omega) m2 (fun v2 h2 c2_0 c2_1 y2 => sg_K1 ?_)
  refine st_as (fun H r => jk_unR I1.1 r) ?_
  have J2 : jk_J w B M O S xs (jk_unt B h2) A := jk_JM I1 (md_YW y2) (cf_XF jJ.2.1 F1) (y2.2.2.trans ab0) jJ.2.2.2
  have y2 := md_YW y2
  have I2 := J2.1
  refine sg_istore (pc := 2253) dL_law_2253 (by decide) ?_
  refine sg_goto (pc := 2255) (tgt := 2472) dL_law_2255 (by decide) ?_
  refine sg_lsub (lv' := [(0, _), (1, _), (2, _), (3, _), (4, _)]) ⟨rfl, rfl, rfl, rfl, rfl, trivial⟩ ?_
  exact K _ _ _ _ J2 (by omega) (by omega)

set_option maxRecDepth 100000 in
set_option maxHeartbeats 1000000 in
theorem lw_c51 {w : sg_W} {Q : sg_O → sg_H → Prop} {h : sg_H} (g : sg_G w) (nc : jk_C w) (hJ : jz w) {d mc ms : Nat} (hd : 30 ≤ d) {B M O S j k n : Nat} {xs : List Int} {A : fa_A} (jJ : jk_J w B M O S xs h A) (hj : 6 * j + 6 ≤ xs.length) (hl : xs.length ≤ 3072) (hk : k + 1030 ≤ mc) (hn : n + (48 + 1350) ≤ ms) (K : ∀ (h' : sg_H) (k' n' : Nat) (A' : fa_A), jk_J w B M O S xs h' A' → k' ≤ k + 1030 → n' ≤ n + (48 + 1350) → sg_R w mi_L_law d mc ms Q 2472 [(0, sg_r S), (1, sg_r B), (2, sg_r M), (3, sg_r O), (4, sg_i (6 * (j : Int)))] [] h' k' n') : sg_R w mi_L_law d mc ms Q 2258 [(0, sg_r S), (1, sg_r B), (2, sg_r M), (3, sg_r O), (4, sg_i (6 * (j : Int)))] [] h k n := by
  obtain ⟨p1, e1⟩ : ∃ p, xs.getD (6 * (j : Int) + 1).toNat 0 = p := ⟨_, rfl⟩
  obtain ⟨p2, e2⟩ : ∃ p, xs.getD (6 * (j : Int) + 2).toNat 0 = p := ⟨_, rfl⟩
  obtain ⟨p3, e3⟩ : ∃ p, xs.getD (6 * (j : Int) + 3).toNat 0 = p := ⟨_, rfl⟩
  obtain ⟨p4, e4⟩ : ∃ p, xs.getD (6 * (j : Int) + 4).toNat 0 = p := ⟨_, rfl⟩
  obtain ⟨p5, e5⟩ : ∃ p, xs.getD (6 * (j : Int) + 5).toNat 0 = p := ⟨_, rfl⟩
  refine sg_aload_n (pc := 2258) (j := 1) dL_law_2258 rfl rfl ?_
  refine sg_aload_n (pc := 2259) (j := 0) dL_law_2259 rfl rfl ?_
  refine sg_iload (pc := 2260) dL_law_2260 rfl ?_
  refine sg_iconst (pc := 2262) (z := 1) dL_law_2262 (by decide) ?_
  first | refine sg_iaddB (pc := 2263) dL_law_2263 (by omega) (by omega) ?_ | refine sg_iadd (pc := 2263) dL_law_2263 ?_
  refine sg_iald (pc := 2264) dL_law_2264 jJ.1.2.2.2.2.2.2.2.2.2 rfl (by omega) (jk_x (by omega) (by omega)) ?_
  try rw [e1]
  try rw [e2]
  try rw [e3]
  try rw [e4]
  try rw [e5]
  refine sg_aload_n (pc := 2265) (j := 0) dL_law_2265 rfl rfl ?_
  refine sg_iload (pc := 2266) dL_law_2266 rfl ?_
  refine sg_iconst (pc := 2268) (z := 2) dL_law_2268 (by decide) ?_
  first | refine sg_iaddB (pc := 2269) dL_law_2269 (by omega) (by omega) ?_ | refine sg_iadd (pc := 2269) dL_law_2269 ?_
  refine sg_iald (pc := 2270) dL_law_2270 jJ.1.2.2.2.2.2.2.2.2.2 rfl (by omega) (jk_x (by omega) (by omega)) ?_
  try rw [e1]
  try rw [e2]
  try rw [e3]
  try rw [e4]
  try rw [e5]
  refine sg_aload_n (pc := 2271) (j := 3) dL_law_2271 rfl rfl ?_
  obtain ⟨L, hL⟩ : ∃ X, fa_L A (4 + p1.toNat) = X := ⟨_, rfl⟩
  refine st_cS4 (pc := 2272) (d' := d - 1) (mc' := 8) (ms' := 48) g dL_law_2272 cb_L_ofTrack cw_L_ofTrack ml_L_361 ms_L_ofTrack (Nat.le_of_ble_eq_true rfl) (by first | exact jl_d0 hd rfl | omega) (by first | exact Nat.le_of_ble_eq_true rfl | omega) (by first | exact Nat.le_of_ble_eq_true rfl | omega) ?_
  refine f_L_ofTrack g nc (by omega) jJ.1 jJ.2.1 jJ.2.2.2 hL (fun v1 h1 I1 X1 k0 k1 k2 F1 r1 => sg_K1 ?_)
  refine sg_istore (pc := 2275) dL_law_2275 (by decide) ?_
  refine sg_aload_n (pc := 2277) (j := 2) dL_law_2277 rfl rfl ?_
  refine sg_aload_n (pc := 2278) (j := 0) dL_law_2278 rfl rfl ?_
  refine sg_iload (pc := 2279) dL_law_2279 rfl ?_
  refine sg_iconst (pc := 2281) (z := 1) dL_law_2281 (by decide) ?_
  first | refine sg_iaddB (pc := 2282) dL_law_2282 (by omega) (by omega) ?_ | refine sg_iadd (pc := 2282) dL_law_2282 ?_
  refine sg_iald (pc := 2283) dL_law_2283 I1.2.2.2.2.2.2.2.2.2 rfl (by omega) (jk_x (by omega) (by omega)) ?_
  try rw [e1]
  try rw [e2]
  try rw [e3]
  try rw [e4]
  try rw [e5]
  refine sg_aload_n (pc := 2284) (j := 0) dL_law_2284 rfl rfl ?_
  refine sg_iload (pc := 2285) dL_law_2285 rfl ?_
  refine sg_iconst (pc := 2287) (z := 2) dL_law_2287 (by decide) ?_
  first | refine sg_iaddB (pc := 2288) dL_law_2288 (by omega) (by omega) ?_ | refine sg_iadd (pc := 2288) dL_law_2288 ?_
  refine sg_iald (pc := 2289) dL_law_2289 I1.2.2.2.2.2.2.2.2.2 rfl (by omega) (jk_x (by omega) (by omega)) ?_
  try rw [e1]
  try rw [e2]
  try rw [e3]
  try rw [e4]
  try rw [e5]
  refine st_as (fun H r => jk_tgR (B := B) r) ?_
  have m2 := jk_Im I1
  have ab0 := jk_Jt jJ I1 X1
  refine sg_cE2 (pc := 2290) (d' := d - 1) (mc' := 152) (ms' := 1350) 8 g dL_law_2290 cb_X7_ofTrack ml_L_363 mn_X7_ofTrack rfl mv_X7_ofTrack (Nat.le_of_ble_eq_true rfl) (md_oc m2) (Nat.le_of_ble_eq_true rfl) (by first | exact jl_d0 hd rfl | omega) (by first | exact Nat.le_of_ble_eq_true rfl | omega) (by first | exact Nat.le_of_ble_eq_true rfl | omega) ?_
  refine s_X7_ofTrack g (by first | exact jl_d1 hd rfl | omega) m2 (fun v2 h2  y2 => sg_K1 ?_)
  refine st_as (fun H r => jk_unR I1.1 r) ?_
  have J2 : jk_J w B M O S xs (jk_unt B h2) A := jk_JM I1 (md_YW y2) (cf_XF jJ.2.1 F1) (y2.2.2.trans ab0) jJ.2.2.2
  have y2 := md_YW y2
  have I2 := J2.1
  refine sg_istore (pc := 2293) dL_law_2293 (by decide) ?_
  refine sg_goto (pc := 2295) (tgt := 2472) dL_law_2295 (by decide) ?_
  refine sg_lsub (lv' := [(0, _), (1, _), (2, _), (3, _), (4, _)]) ⟨rfl, rfl, rfl, rfl, rfl, trivial⟩ ?_
  exact K _ _ _ _ J2 (by omega) (by omega)

set_option maxRecDepth 100000 in
set_option maxHeartbeats 1000000 in
theorem lw_c52 {w : sg_W} {Q : sg_O → sg_H → Prop} {h : sg_H} (g : sg_G w) (nc : jk_C w) (hJ : jz w) {d mc ms : Nat} (hd : 30 ≤ d) {B M O S j k n : Nat} {xs : List Int} {A : fa_A} (jJ : jk_J w B M O S xs h A) (hj : 6 * j + 6 ≤ xs.length) (hl : xs.length ≤ 3072) (hk : k + 1030 ≤ mc) (hn : n + (48 + 0) ≤ ms) (K : ∀ (h' : sg_H) (k' n' : Nat) (A' : fa_A), jk_J w B M O S xs h' A' → k' ≤ k + 1030 → n' ≤ n + (48 + 0) → sg_R w mi_L_law d mc ms Q 2472 [(0, sg_r S), (1, sg_r B), (2, sg_r M), (3, sg_r O), (4, sg_i (6 * (j : Int)))] [] h' k' n') : sg_R w mi_L_law d mc ms Q 2298 [(0, sg_r S), (1, sg_r B), (2, sg_r M), (3, sg_r O), (4, sg_i (6 * (j : Int)))] [] h k n := by
  obtain ⟨p1, e1⟩ : ∃ p, xs.getD (6 * (j : Int) + 1).toNat 0 = p := ⟨_, rfl⟩
  obtain ⟨p2, e2⟩ : ∃ p, xs.getD (6 * (j : Int) + 2).toNat 0 = p := ⟨_, rfl⟩
  obtain ⟨p3, e3⟩ : ∃ p, xs.getD (6 * (j : Int) + 3).toNat 0 = p := ⟨_, rfl⟩
  obtain ⟨p4, e4⟩ : ∃ p, xs.getD (6 * (j : Int) + 4).toNat 0 = p := ⟨_, rfl⟩
  obtain ⟨p5, e5⟩ : ∃ p, xs.getD (6 * (j : Int) + 5).toNat 0 = p := ⟨_, rfl⟩
  refine sg_aload_n (pc := 2298) (j := 1) dL_law_2298 rfl rfl ?_
  refine sg_aload_n (pc := 2299) (j := 0) dL_law_2299 rfl rfl ?_
  refine sg_iload (pc := 2300) dL_law_2300 rfl ?_
  refine sg_iconst (pc := 2302) (z := 1) dL_law_2302 (by decide) ?_
  first | refine sg_iaddB (pc := 2303) dL_law_2303 (by omega) (by omega) ?_ | refine sg_iadd (pc := 2303) dL_law_2303 ?_
  refine sg_iald (pc := 2304) dL_law_2304 jJ.1.2.2.2.2.2.2.2.2.2 rfl (by omega) (jk_x (by omega) (by omega)) ?_
  try rw [e1]
  try rw [e2]
  try rw [e3]
  try rw [e4]
  try rw [e5]
  refine sg_aload_n (pc := 2305) (j := 0) dL_law_2305 rfl rfl ?_
  refine sg_iload (pc := 2306) dL_law_2306 rfl ?_
  refine sg_iconst (pc := 2308) (z := 2) dL_law_2308 (by decide) ?_
  first | refine sg_iaddB (pc := 2309) dL_law_2309 (by omega) (by omega) ?_ | refine sg_iadd (pc := 2309) dL_law_2309 ?_
  refine sg_iald (pc := 2310) dL_law_2310 jJ.1.2.2.2.2.2.2.2.2.2 rfl (by omega) (jk_x (by omega) (by omega)) ?_
  try rw [e1]
  try rw [e2]
  try rw [e3]
  try rw [e4]
  try rw [e5]
  refine sg_aload_n (pc := 2311) (j := 3) dL_law_2311 rfl rfl ?_
  obtain ⟨L, hL⟩ : ∃ X, fa_L A (4 + p1.toNat) = X := ⟨_, rfl⟩
  refine st_cS4 (pc := 2312) (d' := d - 1) (mc' := 8) (ms' := 48) g dL_law_2312 cb_L_unit cw_L_unit ml_L_364 ms_L_unit (Nat.le_of_ble_eq_true rfl) (by first | exact jl_d0 hd rfl | omega) (by first | exact Nat.le_of_ble_eq_true rfl | omega) (by first | exact Nat.le_of_ble_eq_true rfl | omega) ?_
  refine f_L_unit g nc (by omega) jJ.1 jJ.2.1 jJ.2.2.2 hL (fun v1 h1 I1 X1 k0 k1 F1 r1 => sg_K1 ?_)
  refine sg_istore (pc := 2315) dL_law_2315 (by decide) ?_
  refine sg_aload_n (pc := 2317) (j := 2) dL_law_2317 rfl rfl ?_
  refine sg_aload_n (pc := 2318) (j := 0) dL_law_2318 rfl rfl ?_
  refine sg_iload (pc := 2319) dL_law_2319 rfl ?_
  refine sg_iconst (pc := 2321) (z := 1) dL_law_2321 (by decide) ?_
  first | refine sg_iaddB (pc := 2322) dL_law_2322 (by omega) (by omega) ?_ | refine sg_iadd (pc := 2322) dL_law_2322 ?_
  refine sg_iald (pc := 2323) dL_law_2323 I1.2.2.2.2.2.2.2.2.2 rfl (by omega) (jk_x (by omega) (by omega)) ?_
  try rw [e1]
  try rw [e2]
  try rw [e3]
  try rw [e4]
  try rw [e5]
  refine sg_aload_n (pc := 2324) (j := 0) dL_law_2324 rfl rfl ?_
  refine sg_iload (pc := 2325) dL_law_2325 rfl ?_
  refine sg_iconst (pc := 2327) (z := 2) dL_law_2327 (by decide) ?_
  first | refine sg_iaddB (pc := 2328) dL_law_2328 (by omega) (by omega) ?_ | refine sg_iadd (pc := 2328) dL_law_2328 ?_
  refine sg_iald (pc := 2329) dL_law_2329 I1.2.2.2.2.2.2.2.2.2 rfl (by omega) (jk_x (by omega) (by omega)) ?_
  try rw [e1]
  try rw [e2]
  try rw [e3]
  try rw [e4]
  try rw [e5]
  refine st_as (fun H r => jk_tgR (B := B) r) ?_
  have m2 := jk_Im I1
  have ab0 := jk_Jt jJ I1 X1
  refine sg_cE2 (pc := 2330) (d' := d - 1) (mc' := 0) (ms' := 0) 8 g dL_law_2330 cb_X7_unit ml_L_366 mn_X7_unit rfl mv_X7_unit (Nat.le_of_ble_eq_true rfl) (md_oc m2) (Nat.le_of_ble_eq_true rfl) (by first | exact jl_d0 hd rfl | omega) (by first | exact Nat.le_of_ble_eq_true rfl | omega) (by first | exact Nat.le_of_ble_eq_true rfl | omega) ?_
  refine s_X7_unit g (by first | exact jl_d1 hd rfl | omega) m2 (fun v2 h2  y2 => sg_K1 ?_)
  refine st_as (fun H r => jk_unR I1.1 r) ?_
  have J2 : jk_J w B M O S xs (jk_unt B h2) A := jk_JM I1 (md_YW y2) (cf_XF jJ.2.1 F1) (y2.2.2.trans ab0) jJ.2.2.2
  have y2 := md_YW y2
  have I2 := J2.1
  refine sg_istore (pc := 2333) dL_law_2333 (by decide) ?_
  refine sg_goto (pc := 2335) (tgt := 2472) dL_law_2335 (by decide) ?_
  refine sg_lsub (lv' := [(0, _), (1, _), (2, _), (3, _), (4, _)]) ⟨rfl, rfl, rfl, rfl, rfl, trivial⟩ ?_
  exact K _ _ _ _ J2 (by omega) (by omega)

set_option maxRecDepth 100000 in
set_option maxHeartbeats 1000000 in
theorem lw_c53 {w : sg_W} {Q : sg_O → sg_H → Prop} {h : sg_H} (g : sg_G w) (nc : jk_C w) (hJ : jz w) {d mc ms : Nat} (hd : 30 ≤ d) {B M O S j k n : Nat} {xs : List Int} {A : fa_A} (jJ : jk_J w B M O S xs h A) (hj : 6 * j + 6 ≤ xs.length) (hl : xs.length ≤ 3072) (hk : k + 1030 ≤ mc) (hn : n + (48 + 0) ≤ ms) (K : ∀ (h' : sg_H) (k' n' : Nat) (A' : fa_A), jk_J w B M O S xs h' A' → k' ≤ k + 1030 → n' ≤ n + (48 + 0) → sg_R w mi_L_law d mc ms Q 2472 [(0, sg_r S), (1, sg_r B), (2, sg_r M), (3, sg_r O), (4, sg_i (6 * (j : Int)))] [] h' k' n') : sg_R w mi_L_law d mc ms Q 2338 [(0, sg_r S), (1, sg_r B), (2, sg_r M), (3, sg_r O), (4, sg_i (6 * (j : Int)))] [] h k n := by
  obtain ⟨p1, e1⟩ : ∃ p, xs.getD (6 * (j : Int) + 1).toNat 0 = p := ⟨_, rfl⟩
  obtain ⟨p2, e2⟩ : ∃ p, xs.getD (6 * (j : Int) + 2).toNat 0 = p := ⟨_, rfl⟩
  obtain ⟨p3, e3⟩ : ∃ p, xs.getD (6 * (j : Int) + 3).toNat 0 = p := ⟨_, rfl⟩
  obtain ⟨p4, e4⟩ : ∃ p, xs.getD (6 * (j : Int) + 4).toNat 0 = p := ⟨_, rfl⟩
  obtain ⟨p5, e5⟩ : ∃ p, xs.getD (6 * (j : Int) + 5).toNat 0 = p := ⟨_, rfl⟩
  refine sg_aload_n (pc := 2338) (j := 1) dL_law_2338 rfl rfl ?_
  refine sg_aload_n (pc := 2339) (j := 0) dL_law_2339 rfl rfl ?_
  refine sg_iload (pc := 2340) dL_law_2340 rfl ?_
  refine sg_iconst (pc := 2342) (z := 1) dL_law_2342 (by decide) ?_
  first | refine sg_iaddB (pc := 2343) dL_law_2343 (by omega) (by omega) ?_ | refine sg_iadd (pc := 2343) dL_law_2343 ?_
  refine sg_iald (pc := 2344) dL_law_2344 jJ.1.2.2.2.2.2.2.2.2.2 rfl (by omega) (jk_x (by omega) (by omega)) ?_
  try rw [e1]
  try rw [e2]
  try rw [e3]
  try rw [e4]
  try rw [e5]
  refine sg_aload_n (pc := 2345) (j := 0) dL_law_2345 rfl rfl ?_
  refine sg_iload (pc := 2346) dL_law_2346 rfl ?_
  refine sg_iconst (pc := 2348) (z := 2) dL_law_2348 (by decide) ?_
  first | refine sg_iaddB (pc := 2349) dL_law_2349 (by omega) (by omega) ?_ | refine sg_iadd (pc := 2349) dL_law_2349 ?_
  refine sg_iald (pc := 2350) dL_law_2350 jJ.1.2.2.2.2.2.2.2.2.2 rfl (by omega) (jk_x (by omega) (by omega)) ?_
  try rw [e1]
  try rw [e2]
  try rw [e3]
  try rw [e4]
  try rw [e5]
  refine sg_aload_n (pc := 2351) (j := 3) dL_law_2351 rfl rfl ?_
  obtain ⟨L, hL⟩ : ∃ X, fa_L A (4 + p1.toNat) = X := ⟨_, rfl⟩
  refine st_cS4 (pc := 2352) (d' := d - 1) (mc' := 8) (ms' := 48) g dL_law_2352 cb_L_codeAt cw_L_codeAt ml_L_367 ms_L_codeAt (Nat.le_of_ble_eq_true rfl) (by first | exact jl_d0 hd rfl | omega) (by first | exact Nat.le_of_ble_eq_true rfl | omega) (by first | exact Nat.le_of_ble_eq_true rfl | omega) ?_
  refine f_L_codeAt g nc (by omega) jJ.1 jJ.2.1 jJ.2.2.2 hL (fun v1 h1 I1 X1 k0 k1 F1 r1 => sg_K1 ?_)
  refine sg_istore (pc := 2355) dL_law_2355 (by decide) ?_
  refine sg_aload_n (pc := 2357) (j := 2) dL_law_2357 rfl rfl ?_
  refine sg_aload_n (pc := 2358) (j := 0) dL_law_2358 rfl rfl ?_
  refine sg_iload (pc := 2359) dL_law_2359 rfl ?_
  refine sg_iconst (pc := 2361) (z := 1) dL_law_2361 (by decide) ?_
  first | refine sg_iaddB (pc := 2362) dL_law_2362 (by omega) (by omega) ?_ | refine sg_iadd (pc := 2362) dL_law_2362 ?_
  refine sg_iald (pc := 2363) dL_law_2363 I1.2.2.2.2.2.2.2.2.2 rfl (by omega) (jk_x (by omega) (by omega)) ?_
  try rw [e1]
  try rw [e2]
  try rw [e3]
  try rw [e4]
  try rw [e5]
  refine sg_aload_n (pc := 2364) (j := 0) dL_law_2364 rfl rfl ?_
  refine sg_iload (pc := 2365) dL_law_2365 rfl ?_
  refine sg_iconst (pc := 2367) (z := 2) dL_law_2367 (by decide) ?_
  first | refine sg_iaddB (pc := 2368) dL_law_2368 (by omega) (by omega) ?_ | refine sg_iadd (pc := 2368) dL_law_2368 ?_
  refine sg_iald (pc := 2369) dL_law_2369 I1.2.2.2.2.2.2.2.2.2 rfl (by omega) (jk_x (by omega) (by omega)) ?_
  try rw [e1]
  try rw [e2]
  try rw [e3]
  try rw [e4]
  try rw [e5]
  refine st_as (fun H r => jk_tgR (B := B) r) ?_
  have m2 := jk_Im I1
  have ab0 := jk_Jt jJ I1 X1
  refine sg_cE2 (pc := 2370) (d' := d - 1) (mc' := 0) (ms' := 0) 8 g dL_law_2370 cb_X7_codeAt ml_L_369 mn_X7_codeAt rfl mv_X7_codeAt (Nat.le_of_ble_eq_true rfl) (md_oc m2) (Nat.le_of_ble_eq_true rfl) (by first | exact jl_d0 hd rfl | omega) (by first | exact Nat.le_of_ble_eq_true rfl | omega) (by first | exact Nat.le_of_ble_eq_true rfl | omega) ?_
  refine s_X7_codeAt g (by first | exact jl_d1 hd rfl | omega) m2 (fun v2 h2  y2 => sg_K1 ?_)
  refine st_as (fun H r => jk_unR I1.1 r) ?_
  have J2 : jk_J w B M O S xs (jk_unt B h2) A := jk_JM I1 (md_YW y2) (cf_XF jJ.2.1 F1) (y2.2.2.trans ab0) jJ.2.2.2
  have y2 := md_YW y2
  have I2 := J2.1
  refine sg_istore (pc := 2373) dL_law_2373 (by decide) ?_
  refine sg_goto (pc := 2375) (tgt := 2472) dL_law_2375 (by decide) ?_
  refine sg_lsub (lv' := [(0, _), (1, _), (2, _), (3, _), (4, _)]) ⟨rfl, rfl, rfl, rfl, rfl, trivial⟩ ?_
  exact K _ _ _ _ J2 (by omega) (by omega)

set_option maxRecDepth 100000 in
set_option maxHeartbeats 1000000 in
theorem lw_c54 {w : sg_W} {Q : sg_O → sg_H → Prop} {h : sg_H} (g : sg_G w) (nc : jk_C w) (hJ : jz w) {d mc ms : Nat} (hd : 30 ≤ d) {B M O S j k n : Nat} {xs : List Int} {A : fa_A} (jJ : jk_J w B M O S xs h A) (hj : 6 * j + 6 ≤ xs.length) (hl : xs.length ≤ 3072) (hk : k + 1030 ≤ mc) (hn : n + (48 + 1350) ≤ ms) (K : ∀ (h' : sg_H) (k' n' : Nat) (A' : fa_A), jk_J w B M O S xs h' A' → k' ≤ k + 1030 → n' ≤ n + (48 + 1350) → sg_R w mi_L_law d mc ms Q 2472 [(0, sg_r S), (1, sg_r B), (2, sg_r M), (3, sg_r O), (4, sg_i (6 * (j : Int)))] [] h' k' n') : sg_R w mi_L_law d mc ms Q 2378 [(0, sg_r S), (1, sg_r B), (2, sg_r M), (3, sg_r O), (4, sg_i (6 * (j : Int)))] [] h k n := by
  obtain ⟨p1, e1⟩ : ∃ p, xs.getD (6 * (j : Int) + 1).toNat 0 = p := ⟨_, rfl⟩
  obtain ⟨p2, e2⟩ : ∃ p, xs.getD (6 * (j : Int) + 2).toNat 0 = p := ⟨_, rfl⟩
  obtain ⟨p3, e3⟩ : ∃ p, xs.getD (6 * (j : Int) + 3).toNat 0 = p := ⟨_, rfl⟩
  obtain ⟨p4, e4⟩ : ∃ p, xs.getD (6 * (j : Int) + 4).toNat 0 = p := ⟨_, rfl⟩
  obtain ⟨p5, e5⟩ : ∃ p, xs.getD (6 * (j : Int) + 5).toNat 0 = p := ⟨_, rfl⟩
  refine sg_aload_n (pc := 2378) (j := 1) dL_law_2378 rfl rfl ?_
  refine sg_aload_n (pc := 2379) (j := 0) dL_law_2379 rfl rfl ?_
  refine sg_iload (pc := 2380) dL_law_2380 rfl ?_
  refine sg_iconst (pc := 2382) (z := 1) dL_law_2382 (by decide) ?_
  first | refine sg_iaddB (pc := 2383) dL_law_2383 (by omega) (by omega) ?_ | refine sg_iadd (pc := 2383) dL_law_2383 ?_
  refine sg_iald (pc := 2384) dL_law_2384 jJ.1.2.2.2.2.2.2.2.2.2 rfl (by omega) (jk_x (by omega) (by omega)) ?_
  try rw [e1]
  try rw [e2]
  try rw [e3]
  try rw [e4]
  try rw [e5]
  refine sg_aload_n (pc := 2385) (j := 0) dL_law_2385 rfl rfl ?_
  refine sg_iload (pc := 2386) dL_law_2386 rfl ?_
  refine sg_iconst (pc := 2388) (z := 2) dL_law_2388 (by decide) ?_
  first | refine sg_iaddB (pc := 2389) dL_law_2389 (by omega) (by omega) ?_ | refine sg_iadd (pc := 2389) dL_law_2389 ?_
  refine sg_iald (pc := 2390) dL_law_2390 jJ.1.2.2.2.2.2.2.2.2.2 rfl (by omega) (jk_x (by omega) (by omega)) ?_
  try rw [e1]
  try rw [e2]
  try rw [e3]
  try rw [e4]
  try rw [e5]
  refine sg_aload_n (pc := 2391) (j := 3) dL_law_2391 rfl rfl ?_
  obtain ⟨L, hL⟩ : ∃ X, fa_L A (4 + p1.toNat) = X := ⟨_, rfl⟩
  refine st_cS4 (pc := 2392) (d' := d - 1) (mc' := 8) (ms' := 48) g dL_law_2392 cb_L_nth cw_L_nth ml_L_370 ms_L_nth (Nat.le_of_ble_eq_true rfl) (by first | exact jl_d0 hd rfl | omega) (by first | exact Nat.le_of_ble_eq_true rfl | omega) (by first | exact Nat.le_of_ble_eq_true rfl | omega) ?_
  refine f_L_nth g nc (by omega) jJ.1 jJ.2.1 jJ.2.2.2 hL (fun v1 h1 I1 X1 k0 k1 F1 r1 => sg_K1 ?_)
  refine sg_istore (pc := 2395) dL_law_2395 (by decide) ?_
  refine sg_aload_n (pc := 2397) (j := 2) dL_law_2397 rfl rfl ?_
  refine sg_aload_n (pc := 2398) (j := 0) dL_law_2398 rfl rfl ?_
  refine sg_iload (pc := 2399) dL_law_2399 rfl ?_
  refine sg_iconst (pc := 2401) (z := 1) dL_law_2401 (by decide) ?_
  first | refine sg_iaddB (pc := 2402) dL_law_2402 (by omega) (by omega) ?_ | refine sg_iadd (pc := 2402) dL_law_2402 ?_
  refine sg_iald (pc := 2403) dL_law_2403 I1.2.2.2.2.2.2.2.2.2 rfl (by omega) (jk_x (by omega) (by omega)) ?_
  try rw [e1]
  try rw [e2]
  try rw [e3]
  try rw [e4]
  try rw [e5]
  refine sg_aload_n (pc := 2404) (j := 0) dL_law_2404 rfl rfl ?_
  refine sg_iload (pc := 2405) dL_law_2405 rfl ?_
  refine sg_iconst (pc := 2407) (z := 2) dL_law_2407 (by decide) ?_
  first | refine sg_iaddB (pc := 2408) dL_law_2408 (by omega) (by omega) ?_ | refine sg_iadd (pc := 2408) dL_law_2408 ?_
  refine sg_iald (pc := 2409) dL_law_2409 I1.2.2.2.2.2.2.2.2.2 rfl (by omega) (jk_x (by omega) (by omega)) ?_
  try rw [e1]
  try rw [e2]
  try rw [e3]
  try rw [e4]
  try rw [e5]
  refine st_as (fun H r => jk_tgR (B := B) r) ?_
  have m2 := jk_Im I1
  have ab0 := jk_Jt jJ I1 X1
  refine sg_cE2 (pc := 2410) (d' := d - 1) (mc' := 152) (ms' := 1350) 8 g dL_law_2410 cb_X7_nth ml_L_372 mn_X7_nth rfl mv_X7_nth (Nat.le_of_ble_eq_true rfl) (md_oc m2) (Nat.le_of_ble_eq_true rfl) (by first | exact jl_d0 hd rfl | omega) (by first | exact Nat.le_of_ble_eq_true rfl | omega) (by first | exact Nat.le_of_ble_eq_true rfl | omega) ?_
  refine s_X7_nth g (by first | exact jl_d1 hd rfl | omega) m2 (fun v2 h2  y2 => sg_K1 ?_)
  refine st_as (fun H r => jk_unR I1.1 r) ?_
  have J2 : jk_J w B M O S xs (jk_unt B h2) A := jk_JM I1 (md_YW y2) (cf_XF jJ.2.1 F1) (y2.2.2.trans ab0) jJ.2.2.2
  have y2 := md_YW y2
  have I2 := J2.1
  refine sg_istore (pc := 2413) dL_law_2413 (by decide) ?_
  refine sg_goto (pc := 2415) (tgt := 2472) dL_law_2415 (by decide) ?_
  refine sg_lsub (lv' := [(0, _), (1, _), (2, _), (3, _), (4, _)]) ⟨rfl, rfl, rfl, rfl, rfl, trivial⟩ ?_
  exact K _ _ _ _ J2 (by omega) (by omega)

set_option maxRecDepth 100000 in
set_option maxHeartbeats 1000000 in
theorem lw_c55 {w : sg_W} {Q : sg_O → sg_H → Prop} {h : sg_H} (g : sg_G w) (nc : jk_C w) (hJ : jz w) {d mc ms : Nat} (hd : 30 ≤ d) {B M O S j k n : Nat} {xs : List Int} {A : fa_A} (jJ : jk_J w B M O S xs h A) (hj : 6 * j + 6 ≤ xs.length) (hl : xs.length ≤ 3072) (hk : k + 1030 ≤ mc) (hn : n + (48 + 0) ≤ ms) (K : ∀ (h' : sg_H) (k' n' : Nat) (A' : fa_A), jk_J w B M O S xs h' A' → k' ≤ k + 1030 → n' ≤ n + (48 + 0) → sg_R w mi_L_law d mc ms Q 2472 [(0, sg_r S), (1, sg_r B), (2, sg_r M), (3, sg_r O), (4, sg_i (6 * (j : Int)))] [] h' k' n') : sg_R w mi_L_law d mc ms Q 2418 [(0, sg_r S), (1, sg_r B), (2, sg_r M), (3, sg_r O), (4, sg_i (6 * (j : Int)))] [] h k n := by
  obtain ⟨p1, e1⟩ : ∃ p, xs.getD (6 * (j : Int) + 1).toNat 0 = p := ⟨_, rfl⟩
  obtain ⟨p2, e2⟩ : ∃ p, xs.getD (6 * (j : Int) + 2).toNat 0 = p := ⟨_, rfl⟩
  obtain ⟨p3, e3⟩ : ∃ p, xs.getD (6 * (j : Int) + 3).toNat 0 = p := ⟨_, rfl⟩
  obtain ⟨p4, e4⟩ : ∃ p, xs.getD (6 * (j : Int) + 4).toNat 0 = p := ⟨_, rfl⟩
  obtain ⟨p5, e5⟩ : ∃ p, xs.getD (6 * (j : Int) + 5).toNat 0 = p := ⟨_, rfl⟩
  refine sg_aload_n (pc := 2418) (j := 1) dL_law_2418 rfl rfl ?_
  refine sg_aload_n (pc := 2419) (j := 0) dL_law_2419 rfl rfl ?_
  refine sg_iload (pc := 2420) dL_law_2420 rfl ?_
  refine sg_iconst (pc := 2422) (z := 1) dL_law_2422 (by decide) ?_
  first | refine sg_iaddB (pc := 2423) dL_law_2423 (by omega) (by omega) ?_ | refine sg_iadd (pc := 2423) dL_law_2423 ?_
  refine sg_iald (pc := 2424) dL_law_2424 jJ.1.2.2.2.2.2.2.2.2.2 rfl (by omega) (jk_x (by omega) (by omega)) ?_
  try rw [e1]
  try rw [e2]
  try rw [e3]
  try rw [e4]
  try rw [e5]
  refine sg_aload_n (pc := 2425) (j := 3) dL_law_2425 rfl rfl ?_
  refine st_cS3 (pc := 2426) (d' := d - 1) (mc' := 8) (ms' := 48) g dL_law_2426 cb_L_house cw_L_house ml_L_373 ms_L_house (Nat.le_of_ble_eq_true rfl) (by first | exact jl_d0 hd rfl | omega) (by first | exact Nat.le_of_ble_eq_true rfl | omega) (by first | exact Nat.le_of_ble_eq_true rfl | omega) ?_
  refine f_L_house g nc (by omega) jJ.1 jJ.2.1 jJ.2.2.2 (fun v1 h1 I1 X1 k0 k1 F1 r1 => sg_K1 ?_)
  refine sg_istore (pc := 2429) dL_law_2429 (by decide) ?_
  refine sg_aload_n (pc := 2431) (j := 2) dL_law_2431 rfl rfl ?_
  refine sg_aload_n (pc := 2432) (j := 0) dL_law_2432 rfl rfl ?_
  refine sg_iload (pc := 2433) dL_law_2433 rfl ?_
  refine sg_iconst (pc := 2435) (z := 1) dL_law_2435 (by decide) ?_
  first | refine sg_iaddB (pc := 2436) dL_law_2436 (by omega) (by omega) ?_ | refine sg_iadd (pc := 2436) dL_law_2436 ?_
  refine sg_iald (pc := 2437) dL_law_2437 I1.2.2.2.2.2.2.2.2.2 rfl (by omega) (jk_x (by omega) (by omega)) ?_
  try rw [e1]
  try rw [e2]
  try rw [e3]
  try rw [e4]
  try rw [e5]
  refine st_as (fun H r => jk_tgR (B := B) r) ?_
  have m2 := jk_Im I1
  have ab0 := jk_Jt jJ I1 X1
  refine sg_cE1 (pc := 2438) (d' := d - 1) (mc' := 0) (ms' := 0) 8 g dL_law_2438 cb_X7_house ml_L_375 mn_X7_house rfl mv_X7_house (Nat.le_of_ble_eq_true rfl) (md_oc m2) (Nat.le_of_ble_eq_true rfl) (by first | exact jl_d0 hd rfl | omega) (by first | exact Nat.le_of_ble_eq_true rfl | omega) (by first | exact Nat.le_of_ble_eq_true rfl | omega) ?_
  refine s_X7_house g (by first | exact jl_d1 hd rfl | omega) m2 (fun v2 h2  y2 => sg_K1 ?_)
  refine st_as (fun H r => jk_unR I1.1 r) ?_
  have J2 : jk_J w B M O S xs (jk_unt B h2) A := jk_JM I1 (md_YW y2) (cf_XF jJ.2.1 F1) (y2.2.2.trans ab0) jJ.2.2.2
  have y2 := md_YW y2
  have I2 := J2.1
  refine sg_istore (pc := 2441) dL_law_2441 (by decide) ?_
  refine sg_goto (pc := 2443) (tgt := 2472) dL_law_2443 (by decide) ?_
  refine sg_lsub (lv' := [(0, _), (1, _), (2, _), (3, _), (4, _)]) ⟨rfl, rfl, rfl, rfl, rfl, trivial⟩ ?_
  exact K _ _ _ _ J2 (by omega) (by omega)

set_option maxRecDepth 100000 in
set_option maxHeartbeats 1000000 in
theorem lw_c56 {w : sg_W} {Q : sg_O → sg_H → Prop} {h : sg_H} (g : sg_G w) (nc : jk_C w) (hJ : jz w) {d mc ms : Nat} (hd : 30 ≤ d) {B M O S j k n : Nat} {xs : List Int} {A : fa_A} (jJ : jk_J w B M O S xs h A) (hj : 6 * j + 6 ≤ xs.length) (hl : xs.length ≤ 3072) (hk : k + 1030 ≤ mc) (hn : n + (0 + 0) ≤ ms) (K : ∀ (h' : sg_H) (k' n' : Nat) (A' : fa_A), jk_J w B M O S xs h' A' → k' ≤ k + 1030 → n' ≤ n + (0 + 0) → sg_R w mi_L_law d mc ms Q 2472 [(0, sg_r S), (1, sg_r B), (2, sg_r M), (3, sg_r O), (4, sg_i (6 * (j : Int)))] [] h' k' n') : sg_R w mi_L_law d mc ms Q 2446 [(0, sg_r S), (1, sg_r B), (2, sg_r M), (3, sg_r O), (4, sg_i (6 * (j : Int)))] [] h k n := by
  obtain ⟨p1, e1⟩ : ∃ p, xs.getD (6 * (j : Int) + 1).toNat 0 = p := ⟨_, rfl⟩
  obtain ⟨p2, e2⟩ : ∃ p, xs.getD (6 * (j : Int) + 2).toNat 0 = p := ⟨_, rfl⟩
  obtain ⟨p3, e3⟩ : ∃ p, xs.getD (6 * (j : Int) + 3).toNat 0 = p := ⟨_, rfl⟩
  obtain ⟨p4, e4⟩ : ∃ p, xs.getD (6 * (j : Int) + 4).toNat 0 = p := ⟨_, rfl⟩
  obtain ⟨p5, e5⟩ : ∃ p, xs.getD (6 * (j : Int) + 5).toNat 0 = p := ⟨_, rfl⟩
  refine sg_aload_n (pc := 2446) (j := 1) dL_law_2446 rfl rfl ?_
  refine sg_cE0 (pc := 2447) (d' := d - 1) (mc' := 0) (ms' := 0) 6 g dL_law_2447 cb_X5_isSound ml_L_376 mn_X5_isSound rfl mv_X5_isSound (Nat.le_of_ble_eq_true rfl) (ck_oc jJ.1.2.2.1) (Nat.le_of_ble_eq_true rfl) (by first | exact jl_d0 hd rfl | omega) (by first | exact Nat.le_of_ble_eq_true rfl | omega) (by first | exact Nat.le_of_ble_eq_true rfl | omega) ?_
  refine s_X5_isSound g (by first | exact jl_d1 hd rfl | omega) jJ.1.2.2.1 (fun v1 c1 => sg_K1 ?_)
  have I1 := jJ.1
  have X1 : jk_X (jk_cut B h) (jk_cut B h) := jk_X0
  have F1 : jk_F B h h := jk_F0
  refine sg_pop (pc := 2450) dL_law_2450 rfl ?_
  refine sg_aload_n (pc := 2451) (j := 2) dL_law_2451 rfl rfl ?_
  refine st_as (fun H r => jk_tgR (B := B) r) ?_
  have m2 := jk_Im I1
  have ab0 := jk_Jt jJ I1 X1
  refine sg_cE0 (pc := 2452) (d' := d - 1) (mc' := 0) (ms' := 0) 8 g dL_law_2452 cb_X7_isSound ml_L_380 mn_X7_isSound rfl mv_X7_isSound (Nat.le_of_ble_eq_true rfl) (md_oc m2) (Nat.le_of_ble_eq_true rfl) (by first | exact jl_d0 hd rfl | omega) (by first | exact Nat.le_of_ble_eq_true rfl | omega) (by first | exact Nat.le_of_ble_eq_true rfl | omega) ?_
  refine s_X7_isSound g (by first | exact jl_d1 hd rfl | omega) m2 (fun v2 h2 c2_0 y2 => sg_K1 ?_)
  refine st_as (fun H r => jk_unR I1.1 r) ?_
  have J2 : jk_J w B M O S xs (jk_unt B h2) A := jk_JM I1 (md_YW y2) (cf_XF jJ.2.1 F1) (y2.2.2.trans ab0) jJ.2.2.2
  have y2 := md_YW y2
  have I2 := J2.1
  refine sg_pop (pc := 2455) dL_law_2455 rfl ?_
  refine sg_goto (pc := 2456) (tgt := 2472) dL_law_2456 (by decide) ?_
  refine sg_lsub (lv' := [(0, _), (1, _), (2, _), (3, _), (4, _)]) ⟨rfl, rfl, rfl, rfl, rfl, trivial⟩ ?_
  exact K _ _ _ _ J2 (by omega) (by omega)

set_option maxRecDepth 100000 in
set_option maxHeartbeats 1000000 in
theorem lw_c57 {w : sg_W} {Q : sg_O → sg_H → Prop} {h : sg_H} (g : sg_G w) (nc : jk_C w) (hJ : jz w) {d mc ms : Nat} (hd : 30 ≤ d) {B M O S j k n : Nat} {xs : List Int} {A : fa_A} (jJ : jk_J w B M O S xs h A) (hj : 6 * j + 6 ≤ xs.length) (hl : xs.length ≤ 3072) (hk : k + 1030 ≤ mc) (hn : n + (0 + 8070) ≤ ms) (K : ∀ (h' : sg_H) (k' n' : Nat) (A' : fa_A), jk_J w B M O S xs h' A' → k' ≤ k + 1030 → n' ≤ n + (0 + 8070) → sg_R w mi_L_law d mc ms Q 2472 [(0, sg_r S), (1, sg_r B), (2, sg_r M), (3, sg_r O), (4, sg_i (6 * (j : Int)))] [] h' k' n') : sg_R w mi_L_law d mc ms Q 2459 [(0, sg_r S), (1, sg_r B), (2, sg_r M), (3, sg_r O), (4, sg_i (6 * (j : Int)))] [] h k n := by
  obtain ⟨p1, e1⟩ : ∃ p, xs.getD (6 * (j : Int) + 1).toNat 0 = p := ⟨_, rfl⟩
  obtain ⟨p2, e2⟩ : ∃ p, xs.getD (6 * (j : Int) + 2).toNat 0 = p := ⟨_, rfl⟩
  obtain ⟨p3, e3⟩ : ∃ p, xs.getD (6 * (j : Int) + 3).toNat 0 = p := ⟨_, rfl⟩
  obtain ⟨p4, e4⟩ : ∃ p, xs.getD (6 * (j : Int) + 4).toNat 0 = p := ⟨_, rfl⟩
  obtain ⟨p5, e5⟩ : ∃ p, xs.getD (6 * (j : Int) + 5).toNat 0 = p := ⟨_, rfl⟩
  refine sg_aload_n (pc := 2459) (j := 1) dL_law_2459 rfl rfl ?_
  refine sg_cE0 (pc := 2460) (d' := d - 1) (mc' := 0) (ms' := 0) 6 g dL_law_2460 cb_X5_digest ml_L_381 mn_X5_digest rfl mv_X5_digest (Nat.le_of_ble_eq_true rfl) (ck_oc jJ.1.2.2.1) (Nat.le_of_ble_eq_true rfl) (by first | exact jl_d0 hd rfl | omega) (by first | exact Nat.le_of_ble_eq_true rfl | omega) (by first | exact Nat.le_of_ble_eq_true rfl | omega) ?_
  refine s_X5_digest g (by first | exact jl_d1 hd rfl | omega) jJ.1.2.2.1 (fun v1 => sg_K1 ?_)
  have I1 := jJ.1
  have X1 : jk_X (jk_cut B h) (jk_cut B h) := jk_X0
  have F1 : jk_F B h h := jk_F0
  refine sg_pop2 (pc := 2463) dL_law_2463 ?_
  refine sg_aload_n (pc := 2464) (j := 2) dL_law_2464 rfl rfl ?_
  refine st_as (fun H r => jk_tgR (B := B) r) ?_
  have m2 := jk_Im I1
  have ab0 := jk_Jt jJ I1 X1
  refine sg_cE0 (pc := 2465) (d' := d - 1) (mc' := 1016) (ms' := 8070) 8 g dL_law_2465 cb_X7_digest ml_L_385 mn_X7_digest rfl mv_X7_digest (Nat.le_of_ble_eq_true rfl) (md_oc m2) (Nat.le_of_ble_eq_true rfl) (by first | exact jl_d0 hd rfl | omega) (by first | exact Nat.le_of_ble_eq_true rfl | omega) (by first | exact Nat.le_of_ble_eq_true rfl | omega) ?_
  refine s_X7_digest g (by first | exact jl_d1 hd rfl | omega) m2 (fun v2 h2  y2 => sg_K1 ?_)
  refine st_as (fun H r => jk_unR I1.1 r) ?_
  have J2 : jk_J w B M O S xs (jk_unt B h2) A := jk_JM I1 (md_YW y2) (cf_XF jJ.2.1 F1) (y2.2.2.trans ab0) jJ.2.2.2
  have y2 := md_YW y2
  have I2 := J2.1
  refine sg_pop2 (pc := 2468) dL_law_2468 ?_
  refine sg_goto (pc := 2469) (tgt := 2472) dL_law_2469 (by decide) ?_
  refine sg_lsub (lv' := [(0, _), (1, _), (2, _), (3, _), (4, _)]) ⟨rfl, rfl, rfl, rfl, rfl, trivial⟩ ?_
  exact K _ _ _ _ J2 (by omega) (by omega)

