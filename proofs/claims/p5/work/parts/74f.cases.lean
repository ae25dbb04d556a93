set_option maxRecDepth 100000 in
set_option maxHeartbeats 1000000 in
theorem lw_c50 {w : sg_W} {Q : sg_O → sg_H → Prop} {h : sg_H} (g : sg_G w) (nc : jk_C w) (hJ : jz w) {d mc ms : Nat} (hd : 30 ≤ d) {B M O S j k n : Nat} {xs : List Int} {A : fa_A} (jJ : jk_J w B M O S xs h A) (hj : 6 * j + 6 ≤ xs.length) (hl : xs.length ≤ 3072) (hk : k + 1030 ≤ mc) (hn : n + (48 + 0) ≤ ms) (K : ∀ (h' : sg_H) (k' n' : Nat) (A' : fa_A), jk_J w B M O S xs h' A' → k' ≤ k + 1030 → n' ≤ n + (48 + 0) → sg_R w mi_L_law d mc ms Q 2465 [(0, sg_r S), (1, sg_r B), (2, sg_r M), (3, sg_r O), (4, sg_i (6 * (j : Int)))] [] h' k' n') : sg_R w mi_L_law d mc ms Q 2211 [(0, sg_r S), (1, sg_r B), (2, sg_r M), (3, sg_r O), (4, sg_i (6 * (j : Int)))] [] h k n := by
  obtain ⟨p1, e1⟩ : ∃ p, xs.getD (6 * (j : Int) + 1).toNat 0 = p := ⟨_, rfl⟩
  obtain ⟨p2, e2⟩ : ∃ p, xs.getD (6 * (j : Int) + 2).toNat 0 = p := ⟨_, rfl⟩
  obtain ⟨p3, e3⟩ : ∃ p, xs.getD (6 * (j : Int) + 3).toNat 0 = p := ⟨_, rfl⟩
  obtain ⟨p4, e4⟩ : ∃ p, xs.getD (6 * (j : Int) + 4).toNat 0 = p := ⟨_, rfl⟩
  obtain ⟨p5, e5⟩ : ∃ p, xs.getD (6 * (j : Int) + 5).toNat 0 = p := ⟨_, rfl⟩
  refine sg_aload_n (pc := 2211) (j := 1) dL_law_2211 rfl rfl ?_
  refine sg_aload_n (pc := 2212) (j := 0) dL_law_2212 rfl rfl ?_
  refine sg_iload (pc := 2213) dL_law_2213 rfl ?_
  refine sg_iconst (pc := 2215) (z := 1) dL_law_2215 (by decide) ?_
  first | refine sg_iaddB (pc := 2216) dL_law_2216 (by omega) (by omega) ?_ | refine sg_iadd (pc := 2216) dL_law_2216 ?_
  refine sg_iald (pc := 2217) dL_law_2217 jJ.1.2.2.2.2.2.2.2.2.2 rfl (by omega) (jk_x (by omega) (by omega)) ?_
  try rw [e1]
  try rw [e2]
  try rw [e3]
  try rw [e4]
  try rw [e5]
  refine sg_aload_n (pc := 2218) (j := 0) dL_law_2218 rfl rfl ?_
  refine sg_iload (pc := 2219) dL_law_2219 rfl ?_
  refine sg_iconst (pc := 2221) (z := 2) dL_law_2221 (by decide) ?_
  first | refine sg_iaddB (pc := 2222) dL_law_2222 (by omega) (by omega) ?_ | refine sg_iadd (pc := 2222) dL_law_2222 ?_
  refine sg_iald (pc := 2223) dL_law_2223 jJ.1.2.2.2.2.2.2.2.2.2 rfl (by omega) (jk_x (by omega) (by omega)) ?_
  try rw [e1]
  try rw [e2]
  try rw [e3]
  try rw [e4]
  try rw [e5]
  refine sg_aload_n (pc := 2224) (j := 3) dL_law_2224 rfl rfl ?_
  refine st_cS4 (pc := 2225) (d' := d - 1) (mc' := 8) (ms' := 48) g dL_law_2225 cb_L_compare cw_L_compare ml_L_358 ms_L_compare (Nat.le_of_ble_eq_true rfl) (by first | exact jl_d0 hd rfl | omega) (by first | exact Nat.le_of_ble_eq_true rfl | omega) (by first | exact Nat.le_of_ble_eq_true rfl | omega) ?_
  refine s_L_compare g nc (by omega) jJ.1 (fun v1 h1 I1 X1 F1 k1 o1 => sg_K1 ?_)
  refine sg_istore (pc := 2228) dL_law_2228 (by decide) ?_
  refine sg_aload_n (pc := 2230) (j := 2) dL_law_2230 rfl rfl ?_
  refine sg_aload_n (pc := 2231) (j := 0) dL_law_2231 rfl rfl ?_
  refine sg_iload (pc := 2232) dL_law_2232 rfl ?_
  refine sg_iconst (pc := 2234) (z := 1) dL_law_2234 (by decide) ?_
  first | refine sg_iaddB (pc := 2235) dL_law_2235 (by omega) (by omega) ?_ | refine sg_iadd (pc := 2235) dL_law_2235 ?_
  refine sg_iald (pc := 2236) dL_law_2236 I1.2.2.2.2.2.2.2.2.2 rfl (by omega) (jk_x (by omega) (by omega)) ?_
  try rw [e1]
  try rw [e2]
  try rw [e3]
  try rw [e4]
  try rw [e5]
  refine sg_aload_n (pc := 2237) (j := 0) dL_law_2237 rfl rfl ?_
  refine sg_iload (pc := 2238) dL_law_2238 rfl ?_
  refine sg_iconst (pc := 2240) (z := 2) dL_law_2240 (by decide) ?_
  first | refine sg_iaddB (pc := 2241) dL_law_2241 (by omega) (by omega) ?_ | refine sg_iadd (pc := 2241) dL_law_2241 ?_
  refine sg_iald (pc := 2242) dL_law_2242 I1.2.2.2.2.2.2.2.2.2 rfl (by omega) (jk_x (by omega) (by omega)) ?_
  try rw [e1]
  try rw [e2]
  try rw [e3]
  try rw [e4]
  try rw [e5]
  refine st_as (fun H r => jk_tgR (B := B) r) ?_
  have m2 := jk_Im I1
  have ab0 := jk_Jt jJ I1 X1
  refine sg_cE2 (pc := 2243) (d' := d - 1) (mc' := 0) (ms' := 0) 8 g dL_law_2243 cb_X7_compare ml_L_360 mn_X7_compare rfl mv_X7_compare (Nat.le_of_ble_eq_true rfl) (md_oc m2) (Nat.le_of_ble_eq_true rfl) (by first | exact jl_d0 hd rfl | omega) (by first | exact Nat.le_of_ble_eq_true rfl | omega) (by first | exact Nat.le_of_ble_eq_true rfl | omega) ?_
  refine s_X7_compare g (by first | exact jl_d1 hd rfl | omega) m2 (fun v2 h2 c2_0 c2_1 y2 => sg_K1 ?_)
  refine st_as (fun H r => jk_unR I1.1 r) ?_
  have J2 : jk_J w B M O S xs (jk_unt B h2) A := jk_JM I1 (md_YW y2) (cf_XF jJ.2.1 F1) (y2.2.2.trans ab0) jJ.2.2.2
  have y2 := md_YW y2
  have I2 := J2.1
  refine sg_istore (pc := 2246) dL_law_2246 (by decide) ?_
  refine sg_goto (pc := 2248) (tgt := 2465) dL_law_2248 (by decide) ?_
  refine sg_lsub (lv' := [(0, _), (1, _), (2, _), (3, _), (4, _)]) ⟨rfl, rfl, rfl, rfl, rfl, trivial⟩ ?_
  exact K _ _ _ _ J2 (by omega) (by omega)

set_option maxRecDepth 100000 in
set_option maxHeartbeats 1000000 in
theorem lw_c51 {w : sg_W} {Q : sg_O → sg_H → Prop} {h : sg_H} (g : sg_G w) (nc : jk_C w) (hJ : jz w) {d mc ms : Nat} (hd : 30 ≤ d) {B M O S j k n : Nat} {xs : List Int} {A : fa_A} (jJ : jk_J w B M O S xs h A) (hj : 6 * j + 6 ≤ xs.length) (hl : xs.length ≤ 3072) (hk : k + 1030 ≤ mc) (hn : n + (48 + 1350) ≤ ms) (K : ∀ (h' : sg_H) (k' n' : Nat) (A' : fa_A), jk_J w B M O S xs h' A' → k' ≤ k + 1030 → n' ≤ n + (48 + 1350) → sg_R w mi_L_law d mc ms Q 2465 [(0, sg_r S), (1, sg_r B), (2, sg_r M), (3, sg_r O), (4, sg_i (6 * (j : Int)))] [] h' k' n') : sg_R w mi_L_law d mc ms Q 2251 [(0, sg_r S), (1, sg_r B), (2, sg_r M), (3, sg_r O), (4, sg_i (6 * (j : Int)))] [] h k n := by
  obtain ⟨p1, e1⟩ : ∃ p, xs.getD (6 * (j : Int) + 1).toNat 0 = p := ⟨_, rfl⟩
  obtain ⟨p2, e2⟩ : ∃ p, xs.getD (6 * (j : Int) + 2).toNat 0 = p := ⟨_, rfl⟩
  obtain ⟨p3, e3⟩ : ∃ p, xs.getD (6 * (j : Int) + 3).toNat 0 = p := ⟨_, rfl⟩
  obtain ⟨p4, e4⟩ : ∃ p, xs.getD (6 * (j : Int) + 4).toNat 0 = p := ⟨_, rfl⟩
  obtain ⟨p5, e5⟩ : ∃ p, xs.getD (6 * (j : Int) + 5).toNat 0 = p := ⟨_, rfl⟩
  refine sg_aload_n (pc := 2251) (j := 1) dL_law_2251 rfl rfl ?_
  refine sg_aload_n (pc := 2252) (j := 0) dL_law_2252 rfl rfl ?_
  refine sg_iload (pc := 2253) dL_law_2253 rfl ?_
  refine sg_iconst (pc := 2255) (z := 1) dL_law_2255 (by decide) ?_
  first | refine sg_iaddB (pc := 2256) dL_law_2256 (by omega) (by omega) ?_ | refine sg_iadd (pc := 2256) dL_law_2256 ?_
  refine sg_iald (pc := 2257) dL_law_2257 jJ.1.2.2.2.2.2.2.2.2.2 rfl (by omega) (jk_x (by omega) (by omega)) ?_
  try rw [e1]
  try rw [e2]
  try rw [e3]
  try rw [e4]
  try rw [e5]
  refine sg_aload_n (pc := 2258) (j := 0) dL_law_2258 rfl rfl ?_
  refine sg_iload (pc := 2259) dL_law_2259 rfl ?_
  refine sg_iconst (pc := 2261) (z := 2) dL_law_2261 (by decide) ?_
  first | refine sg_iaddB (pc := 2262) dL_law_2262 (by omega) (by omega) ?_ | refine sg_iadd (pc := 2262) dL_law_2262 ?_
  refine sg_iald (pc := 2263) dL_law_2263 jJ.1.2.2.2.2.2.2.2.2.2 rfl (by omega) (jk_x (by omega) (by omega)) ?_
  try rw [e1]
  try rw [e2]
  try rw [e3]
  try rw [e4]
  try rw [e5]
  refine sg_aload_n (pc := 2264) (j := 3) dL_law_2264 rfl rfl ?_
  obtain ⟨L, hL⟩ : ∃ X, fa_L A (4 + p1.toNat) = X := ⟨_, rfl⟩
  refine st_cS4 (pc := 2265) (d' := d - 1) (mc' := 8) (ms' := 48) g dL_law_2265 cb_L_ofTrack cw_L_ofTrack ml_L_361 ms_L_ofTrack (Nat.le_of_ble_eq_true rfl) (by first | exact jl_d0 hd rfl | omega) (by first | exact Nat.le_of_ble_eq_true rfl | omega) (by first | exact Nat.le_of_ble_eq_true rfl | omega) ?_
  refine f_L_ofTrack g nc (by omega) jJ.1 jJ.2.1 jJ.2.2.2 hL (fun v1 h1 I1 X1 k0 k1 k2 F1 r1 => sg_K1 ?_)
  refine sg_istore (pc := 2268) dL_law_2268 (by decide) ?_
  refine sg_aload_n (pc := 2270) (j := 2) dL_law_2270 rfl rfl ?_
  refine sg_aload_n (pc := 2271) (j := 0) dL_law_2271 rfl rfl ?_
  refine sg_iload (pc := 2272) dL_law_2272 rfl ?_
  refine sg_iconst (pc := 2274) (z := 1) dL_law_2274 (by decide) ?_
  first | refine sg_iaddB (pc := 2275) dL_law_2275 (by omega) (by omega) ?_ | refine sg_iadd (pc := 2275) dL_law_2275 ?_
  refine sg_iald (pc := 2276) dL_law_2276 I1.2.2.2.2.2.2.2.2.2 rfl (by omega) (jk_x (by omega) (by omega)) ?_
  try rw [e1]
  try rw [e2]
  try rw [e3]
  try rw [e4]
  try rw [e5]
  refine sg_aload_n (pc := 2277) (j := 0) dL_law_2277 rfl rfl ?_
  refine sg_iload (pc := 2278) dL_law_2278 rfl ?_
  refine sg_iconst (pc := 2280) (z := 2) dL_law_2280 (by decide) ?_
  first | refine sg_iaddB (pc := 2281) dL_law_2281 (by omega) (by omega) ?_ | refine sg_iadd (pc := 2281) dL_law_2281 ?_
  refine sg_iald (pc := 2282) dL_law_2282 I1.2.2.2.2.2.2.2.2.2 rfl (by omega) (jk_x (by omega) (by omega)) ?_
  try rw [e1]
  try rw [e2]
  try rw [e3]
  try rw [e4]
  try rw [e5]
  refine st_as (fun H r => jk_tgR (B := B) r) ?_
  have m2 := jk_Im I1
  have ab0 := jk_Jt jJ I1 X1
  refine sg_cE2 (pc := 2283) (d' := d - 1) (mc' := 152) (ms' := 1350) 8 g dL_law_2283 cb_X7_ofTrack ml_L_363 mn_X7_ofTrack rfl mv_X7_ofTrack (Nat.le_of_ble_eq_true rfl) (md_oc m2) (Nat.le_of_ble_eq_true rfl) (by first | exact jl_d0 hd rfl | omega) (by first | exact Nat.le_of_ble_eq_true rfl | omega) (by first | exact Nat.le_of_ble_eq_true rfl | omega) ?_
  refine s_X7_ofTrack g (by first | exact jl_d1 hd rfl | omega) m2 (fun v2 h2  y2 => sg_K1 ?_)
  refine st_as (fun H r => jk_unR I1.1 r) ?_
  have J2 : jk_J w B M O S xs (jk_unt B h2) A := jk_JM I1 (md_YW y2) (cf_XF jJ.2.1 F1) (y2.2.2.trans ab0) jJ.2.2.2
  have y2 := md_YW y2
  have I2 := J2.1
  refine sg_istore (pc := 2286) dL_law_2286 (by decide) ?_
  refine sg_goto (pc := 2288) (tgt := 2465) dL_law_2288 (by decide) ?_
  refine sg_lsub (lv' := [(0, _), (1, _), (2, _), (3, _), (4, _)]) ⟨rfl, rfl, rfl, rfl, rfl, trivial⟩ ?_
  exact K _ _ _ _ J2 (by omega) (by omega)

set_option maxRecDepth 100000 in
set_option maxHeartbeats 1000000 in
theorem lw_c52 {w : sg_W} {Q : sg_O → sg_H → Prop} {h : sg_H} (g : sg_G w) (nc : jk_C w) (hJ : jz w) {d mc ms : Nat} (hd : 30 ≤ d) {B M O S j k n : Nat} {xs : List Int} {A : fa_A} (jJ : jk_J w B M O S xs h A) (hj : 6 * j + 6 ≤ xs.length) (hl : xs.length ≤ 3072) (hk : k + 1030 ≤ mc) (hn : n + (48 + 0) ≤ ms) (K : ∀ (h' : sg_H) (k' n' : Nat) (A' : fa_A), jk_J w B M O S xs h' A' → k' ≤ k + 1030 → n' ≤ n + (48 + 0) → sg_R w mi_L_law d mc ms Q 2465 [(0, sg_r S), (1, sg_r B), (2, sg_r M), (3, sg_r O), (4, sg_i (6 * (j : Int)))] [] h' k' n') : sg_R w mi_L_law d mc ms Q 2291 [(0, sg_r S), (1, sg_r B), (2, sg_r M), (3, sg_r O), (4, sg_i (6 * (j : Int)))] [] h k n := by
  obtain ⟨p1, e1⟩ : ∃ p, xs.getD (6 * (j : Int) + 1).toNat 0 = p := ⟨_, rfl⟩
  obtain ⟨p2, e2⟩ : ∃ p, xs.getD (6 * (j : Int) + 2).toNat 0 = p := ⟨_, rfl⟩
  obtain ⟨p3, e3⟩ : ∃ p, xs.getD (6 * (j : Int) + 3).toNat 0 = p := ⟨_, rfl⟩
  obtain ⟨p4, e4⟩ : ∃ p, xs.getD (6 * (j : Int) + 4).toNat 0 = p := ⟨_, rfl⟩
  obtain ⟨p5, e5⟩ : ∃ p, xs.getD (6 * (j : Int) + 5).toNat 0 = p := ⟨_, rfl⟩
  refine sg_aload_n (pc := 2291) (j := 1) dL_law_2291 rfl rfl ?_
  refine sg_aload_n (pc := 2292) (j := 0) dL_law_2292 rfl rfl ?_
  refine sg_iload (pc := 2293) dL_law_2293 rfl ?_
  refine sg_iconst (pc := 2295) (z := 1) dL_law_2295 (by decide) ?_
  first | refine sg_iaddB (pc := 2296) dL_law_2296 (by omega) (by omega) ?_ | refine sg_iadd (pc := 2296) dL_law_2296 ?_
  refine sg_iald (pc := 2297) dL_law_2297 jJ.1.2.2.2.2.2.2.2.2.2 rfl (by omega) (jk_x (by omega) (by omega)) ?_
  try rw [e1]
  try rw [e2]
  try rw [e3]
  try rw [e4]
  try rw [e5]
  refine sg_aload_n (pc := 2298) (j := 0) dL_law_2298 rfl rfl ?_
  refine sg_iload (pc := 2299) dL_law_2299 rfl ?_
  refine sg_iconst (pc := 2301) (z := 2) dL_law_2301 (by decide) ?_
  first | refine sg_iaddB (pc := 2302) dL_law_2302 (by omega) (by omega) ?_ | refine sg_iadd (pc := 2302) dL_law_2302 ?_
  refine sg_iald (pc := 2303) dL_law_2303 jJ.1.2.2.2.2.2.2.2.2.2 rfl (by omega) (jk_x (by omega) (by omega)) ?_
  try rw [e1]
  try rw [e2]
  try rw [e3]
  try rw [e4]
  try rw [e5]
  refine sg_aload_n (pc := 2304) (j := 3) dL_law_2304 rfl rfl ?_
  obtain ⟨L, hL⟩ : ∃ X, fa_L A (4 + p1.toNat) = X := ⟨_, rfl⟩
  refine st_cS4 (pc := 2305) (d' := d - 1) (mc' := 8) (ms' := 48) g dL_law_2305 cb_L_unit cw_L_unit ml_L_364 ms_L_unit (Nat.le_of_ble_eq_true rfl) (by first | exact jl_d0 hd rfl | omega) (by first | exact Nat.le_of_ble_eq_true rfl | omega) (by first | exact Nat.le_of_ble_eq_true rfl | omega) ?_
  refine f_L_unit g nc (by omega) jJ.1 jJ.2.1 jJ.2.2.2 hL (fun v1 h1 I1 X1 k0 k1 F1 r1 => sg_K1 ?_)
  refine sg_istore (pc := 2308) dL_law_2308 (by decide) ?_
  refine sg_aload_n (pc := 2310) (j := 2) dL_law_2310 rfl rfl ?_
  refine sg_aload_n (pc := 2311) (j := 0) dL_law_2311 rfl rfl ?_
  refine sg_iload (pc := 2312) dL_law_2312 rfl ?_
  refine sg_iconst (pc := 2314) (z := 1) dL_law_2314 (by decide) ?_
  first | refine sg_iaddB (pc := 2315) dL_law_2315 (by omega) (by omega) ?_ | refine sg_iadd (pc := 2315) dL_law_2315 ?_
  refine sg_iald (pc := 2316) dL_law_2316 I1.2.2.2.2.2.2.2.2.2 rfl (by omega) (jk_x (by omega) (by omega)) ?_
  try rw [e1]
  try rw [e2]
  try rw [e3]
  try rw [e4]
  try rw [e5]
  refine sg_aload_n (pc := 2317) (j := 0) dL_law_2317 rfl rfl ?_
  refine sg_iload (pc := 2318) dL_law_2318 rfl ?_
  refine sg_iconst (pc := 2320) (z := 2) dL_law_2320 (by decide) ?_
  first | refine sg_iaddB (pc := 2321) dL_law_2321 (by omega) (by omega) ?_ | refine sg_iadd (pc := 2321) dL_law_2321 ?_
  refine sg_iald (pc := 2322) dL_law_2322 I1.2.2.2.2.2.2.2.2.2 rfl (by omega) (jk_x (by omega) (by omega)) ?_
  try rw [e1]
  try rw [e2]
  try rw [e3]
  try rw [e4]
  try rw [e5]
  refine st_as (fun H r => jk_tgR (B := B) r) ?_
  have m2 := jk_Im I1
  have ab0 := jk_Jt jJ I1 X1
  refine sg_cE2 (pc := 2323) (d' := d - 1) (mc' := 0) (ms' := 0) 8 g dL_law_2323 cb_X7_unit ml_L_366 mn_X7_unit rfl mv_X7_unit (Nat.le_of_ble_eq_true rfl) (md_oc m2) (Nat.le_of_ble_eq_true rfl) (by first | exact jl_d0 hd rfl | omega) (by first | exact Nat.le_of_ble_eq_true rfl | omega) (by first | exact Nat.le_of_ble_eq_true rfl | omega) ?_
  refine s_X7_unit g (by first | exact jl_d1 hd rfl | omega) m2 (fun v2 h2  y2 => sg_K1 ?_)
  refine st_as (fun H r => jk_unR I1.1 r) ?_
  have J2 : jk_J w B M O S xs (jk_unt B h2) A := jk_JM I1 (md_YW y2) (cf_XF jJ.2.1 F1) (y2.2.2.trans ab0) jJ.2.2.2
  have y2 := md_YW y2
  have I2 := J2.1
  refine sg_istore (pc := 2326) dL_law_2326 (by decide) ?_
  refine sg_goto (pc := 2328) (tgt := 2465) dL_law_2328 (by decide) ?_
  refine sg_lsub (lv' := [(0, _), (1, _), (2, _), (3, _), (4, _)]) ⟨rfl, rfl, rfl, rfl, rfl, trivial⟩ ?_
  exact K _ _ _ _ J2 (by omega) (by omega)

set_option maxRecDepth 100000 in
set_option maxHeartbeats 1000000 in
theorem lw_c53 {w : sg_W} {Q : sg_O → sg_H → Prop} {h : sg_H} (g : sg_G w) (nc : jk_C w) (hJ : jz w) {d mc ms : Nat} (hd : 30 ≤ d) {B M O S j k n : Nat} {xs : List Int} {A : fa_A} (jJ : jk_J w B M O S xs h A) (hj : 6 * j + 6 ≤ xs.length) (hl : xs.length ≤ 3072) (hk : k + 1030 ≤ mc) (hn : n + (48 + 0) ≤ ms) (K : ∀ (h' : sg_H) (k' n' : Nat) (A' : fa_A), jk_J w B M O S xs h' A' → k' ≤ k + 1030 → n' ≤ n + (48 + 0) → sg_R w mi_L_law d mc ms Q 2465 [(0, sg_r S), (1, sg_r B), (2, sg_r M), (3, sg_r O), (4, sg_i (6 * (j : Int)))] [] h' k' n') : sg_R w mi_L_law d mc ms Q 2331 [(0, sg_r S), (1, sg_r B), (2, sg_r M), (3, sg_r O), (4, sg_i (6 * (j : Int)))] [] h k n := by
  obtain ⟨p1, e1⟩ : ∃ p, xs.getD (6 * (j : Int) + 1).toNat 0 = p := ⟨_, rfl⟩
  obtain ⟨p2, e2⟩ : ∃ p, xs.getD (6 * (j : Int) + 2).toNat 0 = p := ⟨_, rfl⟩
  obtain ⟨p3, e3⟩ : ∃ p, xs.getD (6 * (j : Int) + 3).toNat 0 = p := ⟨_, rfl⟩
  obtain ⟨p4, e4⟩ : ∃ p, xs.getD (6 * (j : Int) + 4).toNat 0 = p := ⟨_, rfl⟩
  obtain ⟨p5, e5⟩ : ∃ p, xs.getD (6 * (j : Int) + 5).toNat 0 = p := ⟨_, rfl⟩
  refine sg_aload_n (pc := 2331) (j := 1) dL_law_2331 rfl rfl ?_
  refine sg_aload_n (pc := 2332) (j := 0) dL_law_2332 rfl rfl ?_
  refine sg_iload (pc := 2333) dL_law_2333 rfl ?_
  refine sg_iconst (pc := 2335) (z := 1) dL_law_2335 (by decide) ?_
  first | refine sg_iaddB (pc := 2336) dL_law_2336 (by omega) (by omega) ?_ | refine sg_iadd (pc := 2336) dL_law_2336 ?_
  refine sg_iald (pc := 2337) dL_law_2337 jJ.1.2.2.2.2.2.2.2.2.2 rfl (by omega) (jk_x (by omega) (by omega)) ?_
  try rw [e1]
  try rw [e2]
  try rw [e3]
  try rw [e4]
  try rw [e5]
  refine sg_aload_n (pc := 2338) (j := 0) dL_law_2338 rfl rfl ?_
  refine sg_iload (pc := 2339) dL_law_2339 rfl ?_
  refine sg_iconst (pc := 2341) (z := 2) dL_law_2341 (by decide) ?_
  first | refine sg_iaddB (pc := 2342) dL_law_2342 (by omega) (by omega) ?_ | refine sg_iadd (pc := 2342) dL_law_2342 ?_
  refine sg_iald (pc := 2343) dL_law_2343 jJ.1.2.2.2.2.2.2.2.2.2 rfl (by omega) (jk_x (by omega) (by omega)) ?_
  try rw [e1]
  try rw [e2]
  try rw [e3]
  try rw [e4]
  try rw [e5]
  refine sg_aload_n (pc := 2344) (j := 3) dL_law_2344 rfl rfl ?_
  obtain ⟨L, hL⟩ : ∃ X, fa_L A (4 + p1.toNat) = X := ⟨_, rfl⟩
  refine st_cS4 (pc := 2345) (d' := d - 1) (mc' := 8) (ms' := 48) g dL_law_2345 cb_L_codeAt cw_L_codeAt ml_L_367 ms_L_codeAt (Nat.le_of_ble_eq_true rfl) (by first | exact jl_d0 hd rfl | omega) (by first | exact Nat.le_of_ble_eq_true rfl | omega) (by first | exact Nat.le_of_ble_eq_true rfl | omega) ?_
  refine f_L_codeAt g nc (by omega) jJ.1 jJ.2.1 jJ.2.2.2 hL (fun v1 h1 I1 X1 k0 k1 F1 r1 => sg_K1 ?_)
  refine sg_istore (pc := 2348) dL_law_2348 (by decide) ?_
  refine sg_aload_n (pc := 2350) (j := 2) dL_law_2350 rfl rfl ?_
  refine sg_aload_n (pc := 2351) (j := 0) dL_law_2351 rfl rfl ?_
  refine sg_iload (pc := 2352) dL_law_2352 rfl ?_
  refine sg_iconst (pc := 2354) (z := 1) dL_law_2354 (by decide) ?_
  first | refine sg_iaddB (pc := 2355) dL_law_2355 (by omega) (by omega) ?_ | refine sg_iadd (pc := 2355) dL_law_2355 ?_
  refine sg_iald (pc := 2356) dL_law_2356 I1.2.2.2.2.2.2.2.2.2 rfl (by omega) (jk_x (by omega) (by omega)) ?_
  try rw [e1]
  try rw [e2]
  try rw [e3]
  try rw [e4]
  try rw [e5]
  refine sg_aload_n (pc := 2357) (j := 0) dL_law_2357 rfl rfl ?_
  refine sg_iload (pc := 2358) dL_law_2358 rfl ?_
  refine sg_iconst (pc := 2360) (z := 2) dL_law_2360 (by decide) ?_
  first | refine sg_iaddB (pc := 2361) dL_law_2361 (by omega) (by omega) ?_ | refine sg_iadd (pc := 2361) dL_law_2361 ?_
  refine sg_iald (pc := 2362) dL_law_2362 I1.2.2.2.2.2.2.2.2.2 rfl (by omega) (jk_x (by omega) (by omega)) ?_
  try rw [e1]
  try rw [e2]
  try rw [e3]
  try rw [e4]
  try rw [e5]
  refine st_as (fun H r => jk_tgR (B := B) r) ?_
  have m2 := jk_Im I1
  have ab0 := jk_Jt jJ I1 X1
  refine sg_cE2 (pc := 2363) (d' := d - 1) (mc' := 0) (ms' := 0) 8 g dL_law_2363 cb_X7_codeAt ml_L_369 mn_X7_codeAt rfl mv_X7_codeAt (Nat.le_of_ble_eq_true rfl) (md_oc m2) (Nat.le_of_ble_eq_true rfl) (by first | exact jl_d0 hd rfl | omega) (by first | exact Nat.le_of_ble_eq_true rfl | omega) (by first | exact Nat.le_of_ble_eq_true rfl | omega) ?_
  refine s_X7_codeAt g (by first | exact jl_d1 hd rfl | omega) m2 (fun v2 h2  y2 => sg_K1 ?_)
  refine st_as (fun H r => jk_unR I1.1 r) ?_
  have J2 : jk_J w B M O S xs (jk_unt B h2) A := jk_JM I1 (md_YW y2) (cf_XF jJ.2.1 F1) (y2.2.2.trans ab0) jJ.2.2.2
  have y2 := md_YW y2
  have I2 := J2.1
  refine sg_istore (pc := 2366) dL_law_2366 (by decide) ?_
  refine sg_goto (pc := 2368) (tgt := 2465) dL_law_2368 (by decide) ?_
  refine sg_lsub (lv' := [(0, _), (1, _), (2, _), (3, _), (4, _)]) ⟨rfl, rfl, rfl, rfl, rfl, trivial⟩ ?_
  exact K _ _ _ _ J2 (by omega) (by omega)

set_option maxRecDepth 100000 in
set_option maxHeartbeats 1000000 in
theorem lw_c54 {w : sg_W} {Q : sg_O → sg_H → Prop} {h : sg_H} (g : sg_G w) (nc : jk_C w) (hJ : jz w) {d mc ms : Nat} (hd : 30 ≤ d) {B M O S j k n : Nat} {xs : List Int} {A : fa_A} (jJ : jk_J w B M O S xs h A) (hj : 6 * j + 6 ≤ xs.length) (hl : xs.length ≤ 3072) (hk : k + 1030 ≤ mc) (hn : n + (48 + 1350) ≤ ms) (K : ∀ (h' : sg_H) (k' n' : Nat) (A' : fa_A), jk_J w B M O S xs h' A' → k' ≤ k + 1030 → n' ≤ n + (48 + 1350) → sg_R w mi_L_law d mc ms Q 2465 [(0, sg_r S), (1, sg_r B), (2, sg_r M), (3, sg_r O), (4, sg_i (6 * (j : Int)))] [] h' k' n') : sg_R w mi_L_law d mc ms Q 2371 [(0, sg_r S), (1, sg_r B), (2, sg_r M), (3, sg_r O), (4, sg_i (6 * (j : Int)))] [] h k n := by
  obtain ⟨p1, e1⟩ : ∃ p, xs.getD (6 * (j : Int) + 1).toNat 0 = p := ⟨_, rfl⟩
  obtain ⟨p2, e2⟩ : ∃ p, xs.getD (6 * (j : Int) + 2).toNat 0 = p := ⟨_, rfl⟩
  obtain ⟨p3, e3⟩ : ∃ p, xs.getD (6 * (j : Int) + 3).toNat 0 = p := ⟨_, rfl⟩
  obtain ⟨p4, e4⟩ : ∃ p, xs.getD (6 * (j : Int) + 4).toNat 0 = p := ⟨_, rfl⟩
  obtain ⟨p5, e5⟩ : ∃ p, xs.getD (6 * (j : Int) + 5).toNat 0 = p := ⟨_, rfl⟩
  refine sg_aload_n (pc := 2371) (j := 1) dL_law_2371 rfl rfl ?_
  refine sg_aload_n (pc := 2372) (j := 0) dL_law_2372 rfl rfl ?_
  refine sg_iload (pc := 2373) dL_law_2373 rfl ?_
  refine sg_iconst (pc := 2375) (z := 1) dL_law_2375 (by decide) ?_
  first | refine sg_iaddB (pc := 2376) dL_law_2376 (by omega) (by omega) ?_ | refine sg_iadd (pc := 2376) dL_law_2376 ?_
  refine sg_iald (pc := 2377) dL_law_2377 jJ.1.2.2.2.2.2.2.2.2.2 rfl (by omega) (jk_x (by omega) (by omega)) ?_
  try rw [e1]
  try rw [e2]
  try rw [e3]
  try rw [e4]
  try rw [e5]
  refine sg_aload_n (pc := 2378) (j := 0) dL_law_2378 rfl rfl ?_
  refine sg_iload (pc := 2379) dL_law_2379 rfl ?_
  refine sg_iconst (pc := 2381) (z := 2) dL_law_2381 (by decide) ?_
  first | refine sg_iaddB (pc := 2382) dL_law_2382 (by omega) (by omega) ?_ | refine sg_iadd (pc := 2382) dL_law_2382 ?_
  refine sg_iald (pc := 2383) dL_law_2383 jJ.1.2.2.2.2.2.2.2.2.2 rfl (by omega) (jk_x (by omega) (by omega)) ?_
  try rw [e1]
  try rw [e2]
  try rw [e3]
  try rw [e4]
  try rw [e5]
  refine sg_aload_n (pc := 2384) (j := 3) dL_law_2384 rfl rfl ?_
  obtain ⟨L, hL⟩ : ∃ X, fa_L A (4 + p1.toNat) = X := ⟨_, rfl⟩
  refine st_cS4 (pc := 2385) (d' := d - 1) (mc' := 8) (ms' := 48) g dL_law_2385 cb_L_nth cw_L_nth ml_L_370 ms_L_nth (Nat.le_of_ble_eq_true rfl) (by first | exact jl_d0 hd rfl | omega) (by first | exact Nat.le_of_ble_eq_true rfl | omega) (by first | exact Nat.le_of_ble_eq_true rfl | omega) ?_
  refine f_L_nth g nc (by omega) jJ.1 jJ.2.1 jJ.2.2.2 hL (fun v1 h1 I1 X1 k0 k1 F1 r1 => sg_K1 ?_)
  refine sg_istore (pc := 2388) dL_law_2388 (by decide) ?_
  refine sg_aload_n (pc := 2390) (j := 2) dL_law_2390 rfl rfl ?_
  refine sg_aload_n (pc := 2391) (j := 0) dL_law_2391 rfl rfl ?_
  refine sg_iload (pc := 2392) dL_law_2392 rfl ?_
  refine sg_iconst (pc := 2394) (z := 1) dL_law_2394 (by decide) ?_
  first | refine sg_iaddB (pc := 2395) dL_law_2395 (by omega) (by omega) ?_ | refine sg_iadd (pc := 2395) dL_law_2395 ?_
  refine sg_iald (pc := 2396) dL_law_2396 I1.2.2.2.2.2.2.2.2.2 rfl (by omega) (jk_x (by omega) (by omega)) ?_
  try rw [e1]
  try rw [e2]
  try rw [e3]
  try rw [e4]
  try rw [e5]
  refine sg_aload_n (pc := 2397) (j := 0) dL_law_2397 rfl rfl ?_
  refine sg_iload (pc := 2398) dL_law_2398 rfl ?_
  refine sg_iconst (pc := 2400) (z := 2) dL_law_2400 (by decide) ?_
  first | refine sg_iaddB (pc := 2401) dL_law_2401 (by omega) (by omega) ?_ | refine sg_iadd (pc := 2401) dL_law_2401 ?_
  refine sg_iald (pc := 2402) dL_law_2402 I1.2.2.2.2.2.2.2.2.2 rfl (by omega) (jk_x (by omega) (by omega)) ?_
  try rw [e1]
  try rw [e2]
  try rw [e3]
  try rw [e4]
  try rw [e5]
  refine st_as (fun H r => jk_tgR (B := B) r) ?_
  have m2 := jk_Im I1
  have ab0 := jk_Jt jJ I1 X1
  refine sg_cE2 (pc := 2403) (d' := d - 1) (mc' := 152) (ms' := 1350) 8 g dL_law_2403 cb_X7_nth ml_L_372 mn_X7_nth rfl mv_X7_nth (Nat.le_of_ble_eq_true rfl) (md_oc m2) (Nat.le_of_ble_eq_true rfl) (by first | exact jl_d0 hd rfl | omega) (by first | exact Nat.le_of_ble_eq_true rfl | omega) (by first | exact Nat.le_of_ble_eq_true rfl | omega) ?_
  refine s_X7_nth g (by first | exact jl_d1 hd rfl | omega) m2 (fun v2 h2  y2 => sg_K1 ?_)
  refine st_as (fun H r => jk_unR I1.1 r) ?_
  have J2 : jk_J w B M O S xs (jk_unt B h2) A := jk_JM I1 (md_YW y2) (cf_XF jJ.2.1 F1) (y2.2.2.trans ab0) jJ.2.2.2
  have y2 := md_YW y2
  have I2 := J2.1
  refine sg_istore (pc := 2406) dL_law_2406 (by decide) ?_
  refine sg_goto (pc := 2408) (tgt := 2465) dL_law_2408 (by decide) ?_
  refine sg_lsub (lv' := [(0, _), (1, _), (2, _), (3, _), (4, _)]) ⟨rfl, rfl, rfl, rfl, rfl, trivial⟩ ?_
  exact K _ _ _ _ J2 (by omega) (by omega)

set_option maxRecDepth 100000 in
set_option maxHeartbeats 1000000 in
theorem lw_c55 {w : sg_W} {Q : sg_O → sg_H → Prop} {h : sg_H} (g : sg_G w) (nc : jk_C w) (hJ : jz w) {d mc ms : Nat} (hd : 30 ≤ d) {B M O S j k n : Nat} {xs : List Int} {A : fa_A} (jJ : jk_J w B M O S xs h A) (hj : 6 * j + 6 ≤ xs.length) (hl : xs.length ≤ 3072) (hk : k + 1030 ≤ mc) (hn : n + (48 + 0) ≤ ms) (K : ∀ (h' : sg_H) (k' n' : Nat) (A' : fa_A), jk_J w B M O S xs h' A' → k' ≤ k + 1030 → n' ≤ n + (48 + 0) → sg_R w mi_L_law d mc ms Q 2465 [(0, sg_r S), (1, sg_r B), (2, sg_r M), (3, sg_r O), (4, sg_i (6 * (j : Int)))] [] h' k' n') : sg_R w mi_L_law d mc ms Q 2411 [(0, sg_r S), (1, sg_r B), (2, sg_r M), (3, sg_r O), (4, sg_i (6 * (j : Int)))] [] h k n := by
  obtain ⟨p1, e1⟩ : ∃ p, xs.getD (6 * (j : Int) + 1).toNat 0 = p := ⟨_, rfl⟩
  obtain ⟨p2, e2⟩ : ∃ p, xs.getD (6 * (j : Int) + 2).toNat 0 = p := ⟨_, rfl⟩
  obtain ⟨p3, e3⟩ : ∃ p, xs.getD (6 * (j : Int) + 3).toNat 0 = p := ⟨_, rfl⟩
  obtain ⟨p4, e4⟩ : ∃ p, xs.getD (6 * (j : Int) + 4).toNat 0 = p := ⟨_, rfl⟩
  obtain ⟨p5, e5⟩ : ∃ p, xs.getD (6 * (j : Int) + 5).toNat 0 = p := ⟨_, rfl⟩
  refine sg_aload_n (pc := 2411) (j := 1) dL_law_2411 rfl rfl ?_
  refine sg_aload_n (pc := 2412) (j := 0) dL_law_2412 rfl rfl ?_
  refine sg_iload (pc := 2413) dL_law_2413 rfl ?_
  refine sg_iconst (pc := 2415) (z := 1) dL_law_2415 (by decide) ?_
  first | refine sg_iaddB (pc := 2416) dL_law_2416 (by omega) (by omega) ?_ | refine sg_iadd (pc := 2416) dL_law_2416 ?_
  refine sg_iald (pc := 2417) dL_law_2417 jJ.1.2.2.2.2.2.2.2.2.2 rfl (by omega) (jk_x (by omega) (by omega)) ?_
  try rw [e1]
  try rw [e2]
  try rw [e3]
  try rw [e4]
  try rw [e5]
  refine sg_aload_n (pc := 2418) (j := 3) dL_law_2418 rfl rfl ?_
  refine st_cS3 (pc := 2419) (d' := d - 1) (mc' := 8) (ms' := 48) g dL_law_2419 cb_L_house cw_L_house ml_L_373 ms_L_house (Nat.le_of_ble_eq_true rfl) (by first | exact jl_d0 hd rfl | omega) (by first | exact Nat.le_of_ble_eq_true rfl | omega) (by first | exact Nat.le_of_ble_eq_true rfl | omega) ?_
  refine f_L_house g nc (by omega) jJ.1 jJ.2.1 jJ.2.2.2 (fun v1 h1 I1 X1 k0 k1 F1 r1 => sg_K1 ?_)
  refine sg_istore (pc := 2422) dL_law_2422 (by decide) ?_
  refine sg_aload_n (pc := 2424) (j := 2) dL_law_2424 rfl rfl ?_
  refine sg_aload_n (pc := 2425) (j := 0) dL_law_2425 rfl rfl ?_
  refine sg_iload (pc := 2426) dL_law_2426 rfl ?_
  refine sg_iconst (pc := 2428) (z := 1) dL_law_2428 (by decide) ?_
  first | refine sg_iaddB (pc := 2429) dL_law_2429 (by omega) (by omega) ?_ | refine sg_iadd (pc := 2429) dL_law_2429 ?_
  refine sg_iald (pc := 2430) dL_law_2430 I1.2.2.2.2.2.2.2.2.2 rfl (by omega) (jk_x (by omega) (by omega)) ?_
  try rw [e1]
  try rw [e2]
  try rw [e3]
  try rw [e4]
  try rw [e5]
  refine st_as (fun H r => jk_tgR (B := B) r) ?_
  have m2 := jk_Im I1
  have ab0 := jk_Jt jJ I1 X1
  refine sg_cE1 (pc := 2431) (d' := d - 1) (mc' := 0) (ms' := 0) 8 g dL_law_2431 cb_X7_house ml_L_375 mn_X7_house rfl mv_X7_house (Nat.le_of_ble_eq_true rfl) (md_oc m2) (Nat.le_of_ble_eq_true rfl) (by first | exact jl_d0 hd rfl | omega) (by first | exact Nat.le_of_ble_eq_true rfl | omega) (by first | exact Nat.le_of_ble_eq_true rfl | omega) ?_
  refine s_X7_house g (by first | exact jl_d1 hd rfl | omega) m2 (fun v2 h2  y2 => sg_K1 ?_)
  refine st_as (fun H r => jk_unR I1.1 r) ?_
  have J2 : jk_J w B M O S xs (jk_unt B h2) A := jk_JM I1 (md_YW y2) (cf_XF jJ.2.1 F1) (y2.2.2.trans ab0) jJ.2.2.2
  have y2 := md_YW y2
  have I2 := J2.1
  refine sg_istore (pc := 2434) dL_law_2434 (by decide) ?_
  refine sg_goto (pc := 2436) (tgt := 2465) dL_law_2436 (by decide) ?_
  refine sg_lsub (lv' := [(0, _), (1, _), (2, _), (3, _), (4, _)]) ⟨rfl, rfl, rfl, rfl, rfl, trivial⟩ ?_
  exact K _ _ _ _ J2 (by omega) (by omega)

set_option maxRecDepth 100000 in
set_option maxHeartbeats 1000000 in
theorem lw_c56 {w : sg_W} {Q : sg_O → sg_H → Prop} {h : sg_H} (g : sg_G w) (nc : jk_C w) (hJ : jz w) {d mc ms : Nat} (hd : 30 ≤ d) {B M O S j k n : Nat} {xs : List Int} {A : fa_A} (jJ : jk_J w B M O S xs h A) (hj : 6 * j + 6 ≤ xs.length) (hl : xs.length ≤ 3072) (hk : k + 1030 ≤ mc) (hn : n + (0 + 0) ≤ ms) (K : ∀ (h' : sg_H) (k' n' : Nat) (A' : fa_A), jk_J w B M O S xs h' A' → k' ≤ k + 1030 → n' ≤ n + (0 + 0) → sg_R w mi_L_law d mc ms Q 2465 [(0, sg_r S), (1, sg_r B), (2, sg_r M), (3, sg_r O), (4, sg_i (6 * (j : Int)))] [] h' k' n') : sg_R w mi_L_law d mc ms Q 2439 [(0, sg_r S), (1, sg_r B), (2, sg_r M), (3, sg_r O), (4, sg_i (6 * (j : Int)))] [] h k n := by
  obtain ⟨p1, e1⟩ : ∃ p, xs.getD (6 * (j : Int) + 1).toNat 0 = p := ⟨_, rfl⟩
  obtain ⟨p2, e2⟩ : ∃ p, xs.getD (6 * (j : Int) + 2).toNat 0 = p := ⟨_, rfl⟩
  obtain ⟨p3, e3⟩ : ∃ p, xs.getD (6 * (j : Int) + 3).toNat 0 = p := ⟨_, rfl⟩
  obtain ⟨p4, e4⟩ : ∃ p, xs.getD (6 * (j : Int) + 4).toNat 0 = p := ⟨_, rfl⟩
  obtain ⟨p5, e5⟩ : ∃ p, xs.getD (6 * (j : Int) + 5).toNat 0 = p := ⟨_, rfl⟩
  refine sg_aload_n (pc := 2439) (j := 1) dL_law_2439 rfl rfl ?_
  refine sg_cE0 (pc := 2440) (d' := d - 1) (mc' := 0) (ms' := 0) 6 g dL_law_2440 cb_X5_isSound ml_L_376 mn_X5_isSound rfl mv_X5_isSound (Nat.le_of_ble_eq_true rfl) (ck_oc jJ.1.2.2.1) (Nat.le_of_ble_eq_true rfl) (by first | exact jl_d0 hd rfl | omega) (by first | exact Nat.le_of_ble_eq_true rfl | omega) (by first | exact Nat.le_of_ble_eq_true rfl | omega) ?_
  refine s_X5_isSound g (by first | exact jl_d1 hd rfl | omega) jJ.1.2.2.1 (fun v1 c1 => sg_K1 ?_)
  have I1 := jJ.1
  have X1 : jk_X (jk_cut B h) (jk_cut B h) := jk_X0
  have F1 : jk_F B h h := jk_F0
  refine sg_pop (pc := 2443) dL_law_2443 rfl ?_
  refine sg_aload_n (pc := 2444) (j := 2) dL_law_2444 rfl rfl ?_
  refine st_as (fun H r => jk_tgR (B := B) r) ?_
  have m2 := jk_Im I1
  have ab0 := jk_Jt jJ I1 X1
  refine sg_cE0 (pc := 2445) (d' := d - 1) (mc' := 0) (ms' := 0) 8 g dL_law_2445 cb_X7_isSound ml_L_380 mn_X7_isSound rfl mv_X7_isSound (Nat.le_of_ble_eq_true rfl) (md_oc m2) (Nat.le_of_ble_eq_true rfl) (by first | exact jl_d0 hd rfl | omega) (by first | exact Nat.le_of_ble_eq_true rfl | omega) (by first | exact Nat.le_of_ble_eq_true rfl | omega) ?_
  refine s_X7_isSound g (by first | exact jl_d1 hd rfl | omega) m2 (fun v2 h2 c2_0 y2 => sg_K1 ?_)
  refine st_as (fun H r => jk_unR I1.1 r) ?_
  have J2 : jk_J w B M O S xs (jk_unt B h2) A := jk_JM I1 (md_YW y2) (cf_XF jJ.2.1 F1) (y2.2.2.trans ab0) jJ.2.2.2
  have y2 := md_YW y2
  have I2 := J2.1
  refine sg_pop (pc := 2448) dL_law_2448 rfl ?_
  refine sg_goto (pc := 2449) (tgt := 2465) dL_law_2449 (by decide) ?_
  refine sg_lsub (lv' := [(0, _), (1, _), (2, _), (3, _), (4, _)]) ⟨rfl, rfl, rfl, rfl, rfl, trivial⟩ ?_
  exact K _ _ _ _ J2 (by omega) (by omega)

set_option maxRecDepth 100000 in
set_option maxHeartbeats 1000000 in
theorem lw_c57 {w : sg_W} {Q : sg_O → sg_H → Prop} {h : sg_H} (g : sg_G w) (nc : jk_C w) (hJ : jz w) {d mc ms : Nat} (hd : 30 ≤ d) {B M O S j k n : Nat} {xs : List Int} {A : fa_A} (jJ : jk_J w B M O S xs h A) (hj : 6 * j + 6 ≤ xs.length) (hl : xs.length ≤ 3072) (hk : k + 1030 ≤ mc) (hn : n + (0 + 8070) ≤ ms) (K : ∀ (h' : sg_H) (k' n' : Nat) (A' : fa_A), jk_J w B M O S xs h' A' → k' ≤ k + 1030 → n' ≤ n + (0 + 8070) → sg_R w mi_L_law d mc ms Q 2465 [(0, sg_r S), (1, sg_r B), (2, sg_r M), (3, sg_r O), (4, sg_i (6 * (j : Int)))] [] h' k' n') : sg_R w mi_L_law d mc ms Q 2452 [(0, sg_r S), (1, sg_r B), (2, sg_r M), (3, sg_r O), (4, sg_i (6 * (j : Int)))] [] h k n := by
  obtain ⟨p1, e1⟩ : ∃ p, xs.getD (6 * (j : Int) + 1).toNat 0 = p := ⟨_, rfl⟩
  obtain ⟨p2, e2⟩ : ∃ p, xs.getD (6 * (j : Int) + 2).toNat 0 = p := ⟨_, rfl⟩
  obtain ⟨p3, e3⟩ : ∃ p, xs.getD (6 * (j : Int) + 3).toNat 0 = p := ⟨_, rfl⟩
  obtain ⟨p4, e4⟩ : ∃ p, xs.getD (6 * (j : Int) + 4).toNat 0 = p := ⟨_, rfl⟩
  obtain ⟨p5, e5⟩ : ∃ p, xs.getD (6 * (j : Int) + 5).toNat 0 = p := ⟨_, rfl⟩
  refine sg_aload_n (pc := 2452) (j := 1) dL_law_2452 rfl rfl ?_
  refine sg_cE0 (pc := 2453) (d' := d - 1) (mc' := 0) (ms' := 0) 6 g dL_law_2453 cb_X5_digest ml_L_381 mn_X5_digest rfl mv_X5_digest (Nat.le_of_ble_eq_true rfl) (ck_oc jJ.1.2.2.1) (Nat.le_of_ble_eq_true rfl) (by first | exact jl_d0 hd rfl | omega) (by first | exact Nat.le_of_ble_eq_true rfl | omega) (by first | exact Nat.le_of_ble_eq_true rfl | omega) ?_
  refine s_X5_digest g (by first | exact jl_d1 hd rfl | omega) jJ.1.2.2.1 (fun v1 => sg_K1 ?_)
  have I1 := jJ.1
  have X1 : jk_X (jk_cut B h) (jk_cut B h) := jk_X0
  have F1 : jk_F B h h := jk_F0
  refine sg_pop2 (pc := 2456) dL_law_2456 ?_
  refine sg_aload_n (pc := 2457) (j := 2) dL_law_2457 rfl rfl ?_
  refine st_as (fun H r => jk_tgR (B := B) r) ?_
  have m2 := jk_Im I1
  have ab0 := jk_Jt jJ I1 X1
  refine sg_cE0 (pc := 2458) (d' := d - 1) (mc' := 1016) (ms' := 8070) 8 g dL_law_2458 cb_X7_digest ml_L_385 mn_X7_digest rfl mv_X7_digest (Nat.le_of_ble_eq_true rfl) (md_oc m2) (Nat.le_of_ble_eq_true rfl) (by first | exact jl_d0 hd rfl | omega) (by first | exact Nat.le_of_ble_eq_true rfl | omega) (by first | exact Nat.le_of_ble_eq_true rfl | omega) ?_
  refine s_X7_digest g (by first | exact jl_d1 hd rfl | omega) m2 (fun v2 h2  y2 => sg_K1 ?_)
  refine st_as (fun H r => jk_unR I1.1 r) ?_
  have J2 : jk_J w B M O S xs (jk_unt B h2) A := jk_JM I1 (md_YW y2) (cf_XF jJ.2.1 F1) (y2.2.2.trans ab0) jJ.2.2.2
  have y2 := md_YW y2
  have I2 := J2.1
  refine sg_pop2 (pc := 2461) dL_law_2461 ?_
  refine sg_goto (pc := 2462) (tgt := 2465) dL_law_2462 (by decide) ?_
  refine sg_lsub (lv' := [(0, _), (1, _), (2, _), (3, _), (4, _)]) ⟨rfl, rfl, rfl, rfl, rfl, trivial⟩ ?_
  exact K _ _ _ _ J2 (by omega) (by omega)

