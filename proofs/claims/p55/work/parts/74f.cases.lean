set_option maxRecDepth 100000 in
set_option maxHeartbeats 1000000 in
theorem lw_c50 {w : sg_W} {Q : sg_O → sg_H → Prop} {h : sg_H} (g : sg_G w) (nc : jk_C w) (hJ : jz w) {d mc ms : Nat} (hd : 30 ≤ d) {B M O S j k n : Nat} {xs : List Int} {A : fa_A} (jJ : jk_J w B M O S xs h A) (hj : 6 * j + 6 ≤ xs.length) (hl : xs.length ≤ 3072) (hk : k + 1030 ≤ mc) (hn : n + (48 + 0) ≤ ms) (K : ∀ (h' : sg_H) (k' n' : Nat) (A' : fa_A), jk_J w B M O S xs h' A' → k' ≤ k + 1030 → n' ≤ n + (48 + 0) → sg_R w mi_L_law d mc ms Q 2465 [(0, sg_r S), (1, sg_r B), (2, sg_r M), (3, sg_r O), (4, sg_i (6 * (j : Int)))] [] h' k' n') : sg_R w mi_L_law d mc ms Q 2182 [(0, sg_r S), (1, sg_r B), (2, sg_r M), (3, sg_r O), (4, sg_i (6 * (j : Int)))] [] h k n := by
  obtain ⟨p1, e1⟩ : ∃ p, xs.getD (6 * (j : Int) + 1).toNat 0 = p := ⟨_, rfl⟩
  obtain ⟨p2, e2⟩ : ∃ p, xs.getD (6 * (j : Int) + 2).toNat 0 = p := ⟨_, rfl⟩
  obtain ⟨p3, e3⟩ : ∃ p, xs.getD (6 * (j : Int) + 3).toNat 0 = p := ⟨_, rfl⟩
  obtain ⟨p4, e4⟩ : ∃ p, xs.getD (6 * (j : Int) + 4).toNat 0 = p := ⟨_, rfl⟩
  obtain ⟨p5, e5⟩ : ∃ p, xs.getD (6 * (j : Int) + 5).toNat 0 = p := ⟨_, rfl⟩
  refine sg_aload_n (pc := 2182) (j := 1) dL_law_2182 rfl rfl ?_
  refine sg_aload_n (pc := 2183) (j := 0) dL_law_2183 rfl rfl ?_
  refine sg_iload (pc := 2184) dL_law_2184 rfl ?_
  refine sg_iconst (pc := 2186) (z := 1) dL_law_2186 (by decide) ?_
  first | refine sg_iaddB (pc := 2187) dL_law_2187 (by omega) (by omega) ?_ | refine sg_iadd (pc := 2187) dL_law_2187 ?_
  refine sg_iald (pc := 2188) dL_law_2188 jJ.1.2.2.2.2.2.2.2.2.2 rfl (by omega) (jk_x (by omega) (by omega)) ?_
  try rw [e1]
  try rw [e2]
  try rw [e3]
  try rw [e4]
  try rw [e5]
  refine sg_aload_n (pc := 2189) (j := 0) dL_law_2189 rfl rfl ?_
  refine sg_iload (pc := 2190) dL_law_2190 rfl ?_
  refine sg_iconst (pc := 2192) (z := 2) dL_law_2192 (by decide) ?_
  first | refine sg_iaddB (pc := 2193) dL_law_2193 (by omega) (by omega) ?_ | refine sg_iadd (pc := 2193) dL_law_2193 ?_
  refine sg_iald (pc := 2194) dL_law_2194 jJ.1.2.2.2.2.2.2.2.2.2 rfl (by omega) (jk_x (by omega) (by omega)) ?_
  try rw [e1]
  try rw [e2]
  try rw [e3]
  try rw [e4]
  try rw [e5]
  refine sg_aload_n (pc := 2195) (j := 3) dL_law_2195 rfl rfl ?_
  refine st_cS4 (pc := 2196) (d' := d - 1) (mc' := 8) (ms' := 48) g dL_law_2196 cb_L_compare cw_L_compare ml_L_355 ms_L_compare (Nat.le_of_ble_eq_true rfl) (by first | exact jl_d0 hd rfl | omega) (by first | exact Nat.le_of_ble_eq_true rfl | omega) (by first | exact Nat.le_of_ble_eq_true rfl | omega) ?_
  refine s_L_compare g nc (by omega) jJ.1 (fun v1 h1 I1 X1 F1 k1 o1 => sg_K1 ?_)
  refine sg_istore (pc := 2199) dL_law_2199 (by decide) ?_
  refine sg_aload_n (pc := 2201) (j := 2) dL_law_2201 rfl rfl ?_
  refine sg_aload_n (pc := 2202) (j := 0) dL_law_2202 rfl rfl ?_
  refine sg_iload (pc := 2203) dL_law_2203 rfl ?_
  refine sg_iconst (pc := 2205) (z := 1) dL_law_2205 (by decide) ?_
  first | refine sg_iaddB (pc := 2206) dL_law_2206 (by omega) (by omega) ?_ | refine sg_iadd (pc := 2206) dL_law_2206 ?_
  refine sg_iald (pc := 2207) dL_law_2207 I1.2.2.2.2.2.2.2.2.2 rfl (by omega) (jk_x (by omega) (by omega)) ?_
  try rw [e1]
  try rw [e2]
  try rw [e3]
  try rw [e4]
  try rw [e5]
  refine sg_aload_n (pc := 2208) (j := 0) dL_law_2208 rfl rfl ?_
  refine sg_iload (pc := 2209) dL_law_2209 rfl ?_
  refine sg_iconst (pc := 2211) (z := 2) dL_law_2211 (by decide) ?_
  first | refine sg_iaddB (pc := 2212) dL_law_2212 (by omega) (by omega) ?_ | refine sg_iadd (pc := 2212) dL_law_2212 ?_
  refine sg_iald (pc := 2213) dL_law_2213 I1.2.2.2.2.2.2.2.2.2 rfl (by omega) (jk_x (by omega) (by omega)) ?_
  try rw [e1]
  try rw [e2]
  try rw [e3]
  try rw [e4]
  try rw [e5]
  refine st_as (fun H r => jk_tgR (B := B) r) ?_
  have m2 := jk_Im I1
  have ab0 := jk_Jt jJ I1 X1
  refine sg_cE2 (pc := 2214) (d' := d - 1) (mc' := 0) (ms' := 0) 8 g dL_law_2214 cb_X7_compare ml_L_357 mn_X7_compare rfl mv_X7_compare (Nat.le_of_ble_eq_true rfl) (md_oc m2) (Nat.le_of_ble_eq_true rfl) (by first | exact jl_d0 hd rfl | omega) (by first | exact Nat.le_of_ble_eq_true rfl | omega) (by first | exact Nat.le_of_ble_eq_true rfl | omega) ?_
  refine s_X7_compare g (by first | exact jl_d1 hd rfl | omega) m2 (fun v2 h2 c2_0 c2_1 y2 => sg_K1 ?_)
  refine st_as (fun H r => jk_unR I1.1 r) ?_
  have J2 : jk_J w B M O S xs (jk_unt B h2) A := jk_JM I1 (md_YW y2) (cf_XF jJ.2.1 F1) (y2.2.2.trans ab0) jJ.2.2.2
  have y2 := md_YW y2
  have I2 := J2.1
  refine sg_istore (pc := 2217) dL_law_2217 (by decide) ?_
  refine sg_goto (pc := 2219) (tgt := 2465) dL_law_2219 (by decide) ?_
  refine sg_lsub (lv' := [(0, _), (1, _), (2, _), (3, _), (4, _)]) ⟨rfl, rfl, rfl, rfl, rfl, trivial⟩ ?_
  exact K _ _ _ _ J2 (by omega) (by omega)

set_option maxRecDepth 100000 in
set_option maxHeartbeats 1000000 in
theorem lw_c51 {w : sg_W} {Q : sg_O → sg_H → Prop} {h : sg_H} (g : sg_G w) (nc : jk_C w) (hJ : jz w) {d mc ms : Nat} (hd : 30 ≤ d) {B M O S j k n : Nat} {xs : List Int} {A : fa_A} (jJ : jk_J w B M O S xs h A) (hj : 6 * j + 6 ≤ xs.length) (hl : xs.length ≤ 3072) (hk : k + 1030 ≤ mc) (hn : n + (48 + 1350) ≤ ms) (K : ∀ (h' : sg_H) (k' n' : Nat) (A' : fa_A), jk_J w B M O S xs h' A' → k' ≤ k + 1030 → n' ≤ n + (48 + 1350) → sg_R w mi_L_law d mc ms Q 2465 [(0, sg_r S), (1, sg_r B), (2, sg_r M), (3, sg_r O), (4, sg_i (6 * (j : Int)))] [] h' k' n') : sg_R w mi_L_law d mc ms Q 2222 [(0, sg_r S), (1, sg_r B), (2, sg_r M), (3, sg_r O), (4, sg_i (6 * (j : Int)))] [] h k n := by
  obtain ⟨p1, e1⟩ : ∃ p, xs.getD (6 * (j : Int) + 1).toNat 0 = p := ⟨_, rfl⟩
  obtain ⟨p2, e2⟩ : ∃ p, xs.getD (6 * (j : Int) + 2).toNat 0 = p := ⟨_, rfl⟩
  obtain ⟨p3, e3⟩ : ∃ p, xs.getD (6 * (j : Int) + 3).toNat 0 = p := ⟨_, rfl⟩
  obtain ⟨p4, e4⟩ : ∃ p, xs.getD (6 * (j : Int) + 4).toNat 0 = p := ⟨_, rfl⟩
  obtain ⟨p5, e5⟩ : ∃ p, xs.getD (6 * (j : Int) + 5).toNat 0 = p := ⟨_, rfl⟩
  refine sg_aload_n (pc := 2222) (j := 1) dL_law_2222 rfl rfl ?_
  refine sg_aload_n (pc := 2223) (j := 0) dL_law_2223 rfl rfl ?_
  refine sg_iload (pc := 2224) dL_law_2224 rfl ?_
  refine sg_iconst (pc := 2226) (z := 1) dL_law_2226 (by decide) ?_
  first | refine sg_iaddB (pc := 2227) dL_law_2227 (by omega) (by omega) ?_ | refine sg_iadd (pc := 2227) dL_law_2227 ?_
  refine sg_iald (pc := 2228) dL_law_2228 jJ.1.2.2.2.2.2.2.2.2.2 rfl (by omega) (jk_x (by omega) (by omega)) ?_
  try rw [e1]
  try rw [e2]
  try rw [e3]
  try rw [e4]
  try rw [e5]
  refine sg_aload_n (pc := 2229) (j := 0) dL_law_2229 rfl rfl ?_
  refine sg_iload (pc := 2230) dL_law_2230 rfl ?_
  refine sg_iconst (pc := 2232) (z := 2) dL_law_2232 (by decide) ?_
  first | refine sg_iaddB (pc := 2233) dL_law_2233 (by omega) (by omega) ?_ | refine sg_iadd (pc := 2233) dL_law_2233 ?_
  refine sg_iald (pc := 2234) dL_law_2234 jJ.1.2.2.2.2.2.2.2.2.2 rfl (by omega) (jk_x (by omega) (by omega)) ?_
  try rw [e1]
  try rw [e2]
  try rw [e3]
  try rw [e4]
  try rw [e5]
  refine sg_aload_n (pc := 2235) (j := 3) dL_law_2235 rfl rfl ?_
  obtain ⟨L, hL⟩ : ∃ X, fa_L A (4 + p1.toNat) = X := ⟨_, rfl⟩
  refine st_cS4 (pc := 2236) (d' := d - 1) (mc' := 8) (ms' := 48) g dL_law_2236 cb_L_ofTrack cw_L_ofTrack ml_L_358 ms_L_ofTrack (Nat.le_of_ble_eq_true rfl) (by first | exact jl_d0 hd rfl | omega) (by first | exact Nat.le_of_ble_eq_true rfl | omega) (by first | exact Nat.le_of_ble_eq_true rfl | omega) ?_
  refine f_L_ofTrack g nc (by omega) jJ.1 jJ.2.1 jJ.2.2.2 hL (fun v1 h1 I1 X1 k0 k1 k2 F1 r1 => sg_K1 ?_)
  refine sg_istore (pc := 2239) dL_law_2239 (by decide) ?_
  refine sg_aload_n (pc := 2241) (j := 2) dL_law_2241 rfl rfl ?_
  refine sg_aload_n (pc := 2242) (j := 0) dL_law_2242 rfl rfl ?_
  refine sg_iload (pc := 2243) dL_law_2243 rfl ?_
  refine sg_iconst (pc := 2245) (z := 1) dL_law_2245 (by decide) ?_
  first | refine sg_iaddB (pc := 2246) dL_law_2246 (by omega) (by omega) ?_ | refine sg_iadd (pc := 2246) dL_law_2246 ?_
  refine sg_iald (pc := 2247) dL_law_2247 I1.2.2.2.2.2.2.2.2.2 rfl (by omega) (jk_x (by omega) (by omega)) ?_
  try rw [e1]
  try rw [e2]
  try rw [e3]
  try rw [e4]
  try rw [e5]
  refine sg_aload_n (pc := 2248) (j := 0) dL_law_2248 rfl rfl ?_
  refine sg_iload (pc := 2249) dL_law_2249 rfl ?_
  refine sg_iconst (pc := 2251) (z := 2) dL_law_2251 (by decide) ?_
  first | refine sg_iaddB (pc := 2252) dL_law_2252 (by omega) (by omega) ?_ | refine sg_iadd (pc := 2252) dL_law_2252 ?_
  refine sg_iald (pc := 2253) dL_law_2253 I1.2.2.2.2.2.2.2.2.2 rfl (by omega) (jk_x (by omega) (by omega)) ?_
  try rw [e1]
  try rw [e2]
  try rw [e3]
  try rw [e4]
  try rw [e5]
  refine st_as (fun H r => jk_tgR (B := B) r) ?_
  have m2 := jk_Im I1
  have ab0 := jk_Jt jJ I1 X1
  refine sg_cE2 (pc := 2254) (d' := d - 1) (mc' := 152) (ms' := 1350) 8 g dL_law_2254 cb_X7_ofTrack ml_L_360 mn_X7_ofTrack rfl mv_X7_ofTrack (Nat.le_of_ble_eq_true rfl) (md_oc m2) (Nat.le_of_ble_eq_true rfl) (by first | exact jl_d0 hd rfl | omega) (by first | exact Nat.le_of_ble_eq_true rfl | omega) (by first | exact Nat.le_of_ble_eq_true rfl | omega) ?_
  refine s_X7_ofTrack g (by first | exact jl_d1 hd rfl | omega) m2 (fun v2 h2  y2 => sg_K1 ?_)
  refine st_as (fun H r => jk_unR I1.1 r) ?_
  have J2 : jk_J w B M O S xs (jk_unt B h2) A := jk_JM I1 (md_YW y2) (cf_XF jJ.2.1 F1) (y2.2.2.trans ab0) jJ.2.2.2
  have y2 := md_YW y2
  have I2 := J2.1
  refine sg_istore (pc := 2257) dL_law_2257 (by decide) ?_
  refine sg_goto (pc := 2259) (tgt := 2465) dL_law_2259 (by decide) ?_
  refine sg_lsub (lv' := [(0, _), (1, _), (2, _), (3, _), (4, _)]) ⟨rfl, rfl, rfl, rfl, rfl, trivial⟩ ?_
  exact K _ _ _ _ J2 (by omega) (by omega)

set_option maxRecDepth 100000 in
set_option maxHeartbeats 1000000 in
theorem lw_c52 {w : sg_W} {Q : sg_O → sg_H → Prop} {h : sg_H} (g : sg_G w) (nc : jk_C w) (hJ : jz w) {d mc ms : Nat} (hd : 30 ≤ d) {B M O S j k n : Nat} {xs : List Int} {A : fa_A} (jJ : jk_J w B M O S xs h A) (hj : 6 * j + 6 ≤ xs.length) (hl : xs.length ≤ 3072) (hk : k + 1030 ≤ mc) (hn : n + (48 + 0) ≤ ms) (K : ∀ (h' : sg_H) (k' n' : Nat) (A' : fa_A), jk_J w B M O S xs h' A' → k' ≤ k + 1030 → n' ≤ n + (48 + 0) → sg_R w mi_L_law d mc ms Q 2465 [(0, sg_r S), (1, sg_r B), (2, sg_r M), (3, sg_r O), (4, sg_i (6 * (j : Int)))] [] h' k' n') : sg_R w mi_L_law d mc ms Q 2262 [(0, sg_r S), (1, sg_r B), (2, sg_r M), (3, sg_r O), (4, sg_i (6 * (j : Int)))] [] h k n := by
  obtain ⟨p1, e1⟩ : ∃ p, xs.getD (6 * (j : Int) + 1).toNat 0 = p := ⟨_, rfl⟩
  obtain ⟨p2, e2⟩ : ∃ p, xs.getD (6 * (j : Int) + 2).toNat 0 = p := ⟨_, rfl⟩
  obtain ⟨p3, e3⟩ : ∃ p, xs.getD (6 * (j : Int) + 3).toNat 0 = p := ⟨_, rfl⟩
  obtain ⟨p4, e4⟩ : ∃ p, xs.getD (6 * (j : Int) + 4).toNat 0 = p := ⟨_, rfl⟩
  obtain ⟨p5, e5⟩ : ∃ p, xs.getD (6 * (j : Int) + 5).toNat 0 = p := ⟨_, rfl⟩
  refine sg_aload_n (pc := 2262) (j := 1) dL_law_2262 rfl rfl ?_
  refine sg_aload_n (pc := 2263) (j := 0) dL_law_2263 rfl rfl ?_
  refine sg_iload (pc := 2264) dL_law_2264 rfl ?_
  refine sg_iconst (pc := 2266) (z := 1) dL_law_2266 (by decide) ?_
  first | refine sg_iaddB (pc := 2267) dL_law_2267 (by omega) (by omega) ?_ | refine sg_iadd (pc := 2267) dL_law_2267 ?_
  refine sg_iald (pc := 2268) dL_law_2268 jJ.1.2.2.2.2.2.2.2.2.2 rfl (by omega) (jk_x (by omega) (by omega)) ?_
  try rw [e1]
  try rw [e2]
  try rw [e3]
  try rw [e4]
  try rw [e5]
  refine sg_aload_n (pc := 2269) (j := 0) dL_law_2269 rfl rfl ?_
  refine sg_iload (pc := 2270) dL_law_2270 rfl ?_
  refine sg_iconst (pc := 2272) (z := 2) dL_law_2272 (by decide) ?_
  first | refine sg_iaddB (pc := 2273) dL_law_2273 (by omega) (by omega) ?_ | refine sg_iadd (pc := 2273) dL_law_2273 ?_
  refine sg_iald (pc := 2274) dL_law_2274 jJ.1.2.2.2.2.2.2.2.2.2 rfl (by omega) (jk_x (by omega) (by omega)) ?_
  try rw [e1]
  try rw [e2]
  try rw [e3]
  try rw [e4]
  try rw [e5]
  refine sg_aload_n (pc := 2275) (j := 3) dL_law_2275 rfl rfl ?_
  obtain ⟨L, hL⟩ : ∃ X, fa_L A (4 + p1.toNat) = X := ⟨_, rfl⟩
  refine st_cS4 (pc := 2276) (d' := d - 1) (mc' := 8) (ms' := 48) g dL_law_2276 cb_L_unit cw_L_unit ml_L_361 ms_L_unit (Nat.le_of_ble_eq_true rfl) (by first | exact jl_d0 hd rfl | omega) (by first | exact Nat.le_of_ble_eq_true rfl | omega) (by first | exact Nat.le_of_ble_eq_true rfl | omega) ?_
  refine f_L_unit g nc (by omega) jJ.1 jJ.2.1 jJ.2.2.2 hL (fun v1 h1 I1 X1 k0 k1 F1 r1 => sg_K1 ?_)
  refine sg_istore (pc := 2279) dL_law_2279 (by decide) ?_
  refine sg_aload_n (pc := 2281) (j := 2) dL_law_2281 rfl rfl ?_
  refine sg_aload_n (pc := 2282) (j := 0) dL_law_2282 rfl rfl ?_
  refine sg_iload (pc := 2283) dL_law_2283 rfl ?_
  refine sg_iconst (pc := 2285) (z := 1) dL_law_2285 (by decide) ?_
  first | refine sg_iaddB (pc := 2286) dL_law_2286 (by omega) (by omega) ?_ | refine sg_iadd (pc := 2286) dL_law_2286 ?_
  refine sg_iald (pc := 2287) dL_law_2287 I1.2.2.2.2.2.2.2.2.2 rfl (by omega) (jk_x (by omega) (by omega)) ?_
  try rw [e1]
  try rw [e2]
  try rw [e3]
  try rw [e4]
  try rw [e5]
  refine sg_aload_n (pc := 2288) (j := 0) dL_law_2288 rfl rfl ?_
  refine sg_iload (pc := 2289) dL_law_2289 rfl ?_
  refine sg_iconst (pc := 2291) (z := 2) dL_law_2291 (by decide) ?_
  first | refine sg_iaddB (pc := 2292) dL_law_2292 (by omega) (by omega) ?_ | refine sg_iadd (pc := 2292) dL_law_2292 ?_
  refine sg_iald (pc := 2293) dL_law_2293 I1.2.2.2.2.2.2.2.2.2 rfl (by omega) (jk_x (by omega) (by omega)) ?_
  try rw [e1]
  try rw [e2]
  try rw [e3]
  try rw [e4]
  try rw [e5]
  refine st_as (fun H r => jk_tgR (B := B) r) ?_
  have m2 := jk_Im I1
  have ab0 := jk_Jt jJ I1 X1
  refine sg_cE2 (pc := 2294) (d' := d - 1) (mc' := 0) (ms' := 0) 8 g dL_law_2294 cb_X7_unit ml_L_363 mn_X7_unit rfl mv_X7_unit (Nat.le_of_ble_eq_true rfl) (md_oc m2) (Nat.le_of_ble_eq_true rfl) (by first | exact jl_d0 hd rfl | omega) (by first | exact Nat.le_of_ble_eq_true rfl | omega) (by first | exact Nat.le_of_ble_eq_true rfl | omega) ?_
  refine s_X7_unit g (by first | exact jl_d1 hd rfl | omega) m2 (fun v2 h2  y2 => sg_K1 ?_)
  refine st_as (fun H r => jk_unR I1.1 r) ?_
  have J2 : jk_J w B M O S xs (jk_unt B h2) A := jk_JM I1 (md_YW y2) (cf_XF jJ.2.1 F1) (y2.2.2.trans ab0) jJ.2.2.2
  have y2 := md_YW y2
  have I2 := J2.1
  refine sg_istore (pc := 2297) dL_law_2297 (by decide) ?_
  refine sg_goto (pc := 2299) (tgt := 2465) dL_law_2299 (by decide) ?_
  refine sg_lsub (lv' := [(0, _), (1, _), (2, _), (3, _), (4, _)]) ⟨rfl, rfl, rfl, rfl, rfl, trivial⟩ ?_
  exact K _ _ _ _ J2 (by omega) (by omega)

set_option maxRecDepth 100000 in
set_option maxHeartbeats 1000000 in
theorem lw_c53 {w : sg_W} {Q : sg_O → sg_H → Prop} {h : sg_H} (g : sg_G w) (nc : jk_C w) (hJ : jz w) {d mc ms : Nat} (hd : 30 ≤ d) {B M O S j k n : Nat} {xs : List Int} {A : fa_A} (jJ : jk_J w B M O S xs h A) (hj : 6 * j + 6 ≤ xs.length) (hl : xs.length ≤ 3072) (hk : k + 1030 ≤ mc) (hn : n + (48 + 0) ≤ ms) (K : ∀ (h' : sg_H) (k' n' : Nat) (A' : fa_A), jk_J w B M O S xs h' A' → k' ≤ k + 1030 → n' ≤ n + (48 + 0) → sg_R w mi_L_law d mc ms Q 2465 [(0, sg_r S), (1, sg_r B), (2, sg_r M), (3, sg_r O), (4, sg_i (6 * (j : Int)))] [] h' k' n') : sg_R w mi_L_law d mc ms Q 2302 [(0, sg_r S), (1, sg_r B), (2, sg_r M), (3, sg_r O), (4, sg_i (6 * (j : Int)))] [] h k n := by
  obtain ⟨p1, e1⟩ : ∃ p, xs.getD (6 * (j : Int) + 1).toNat 0 = p := ⟨_, rfl⟩
  obtain ⟨p2, e2⟩ : ∃ p, xs.getD (6 * (j : Int) + 2).toNat 0 = p := ⟨_, rfl⟩
  obtain ⟨p3, e3⟩ : ∃ p, xs.getD (6 * (j : Int) + 3).toNat 0 = p := ⟨_, rfl⟩
  obtain ⟨p4, e4⟩ : ∃ p, xs.getD (6 * (j : Int) + 4).toNat 0 = p := ⟨_, rfl⟩
  obtain ⟨p5, e5⟩ : ∃ p, xs.getD (6 * (j : Int) + 5).toNat 0 = p := ⟨_, rfl⟩
  refine sg_aload_n (pc := 2302) (j := 1) dL_law_2302 rfl rfl ?_
  refine sg_aload_n (pc := 2303) (j := 0) dL_law_2303 rfl rfl ?_
  refine sg_iload (pc := 2304) dL_law_2304 rfl ?_
  refine sg_iconst (pc := 2306) (z := 1) dL_law_2306 (by decide) ?_
  first | refine sg_iaddB (pc := 2307) dL_law_2307 (by omega) (by omega) ?_ | refine sg_iadd (pc := 2307) dL_law_2307 ?_
  refine sg_iald (pc := 2308) dL_law_2308 jJ.1.2.2.2.2.2.2.2.2.2 rfl (by omega) (jk_x (by omega) (by omega)) ?_
  try rw [e1]
  try rw [e2]
  try rw [e3]
  try rw [e4]
  try rw [e5]
  refine sg_aload_n (pc := 2309) (j := 0) dL_law_2309 rfl rfl ?_
  refine sg_iload (pc := 2310) dL_law_2310 rfl ?_
  refine sg_iconst (pc := 2312) (z := 2) dL_law_2312 (by decide) ?_
  first | refine sg_iaddB (pc := 2313) dL_law_2313 (by omega) (by omega) ?_ | refine sg_iadd (pc := 2313) dL_law_2313 ?_
  refine sg_iald (pc := 2314) dL_law_2314 jJ.1.2.2.2.2.2.2.2.2.2 rfl (by omega) (jk_x (by omega) (by omega)) ?_
  try rw [e1]
  try rw [e2]
  try rw [e3]
  try rw [e4]
  try rw [e5]
  refine sg_aload_n (pc := 2315) (j := 3) dL_law_2315 rfl rfl ?_
  obtain ⟨L, hL⟩ : ∃ X, fa_L A (4 + p1.toNat) = X := ⟨_, rfl⟩
  refine st_cS4 (pc := 2316) (d' := d - 1) (mc' := 8) (ms' := 48) g dL_law_2316 cb_L_codeAt cw_L_codeAt ml_L_364 ms_L_codeAt (Nat.le_of_ble_eq_true rfl) (by first | exact jl_d0 hd rfl | omega) (by first | exact Nat.le_of_ble_eq_true rfl | omega) (by first | exact Nat.le_of_ble_eq_true rfl | omega) ?_
  refine f_L_codeAt g nc (by omega) jJ.1 jJ.2.1 jJ.2.2.2 hL (fun v1 h1 I1 X1 k0 k1 F1 r1 => sg_K1 ?_)
  refine sg_istore (pc := 2319) dL_law_2319 (by decide) ?_
  refine sg_aload_n (pc := 2321) (j := 2) dL_law_2321 rfl rfl ?_
  refine sg_aload_n (pc := 2322) (j := 0) dL_law_2322 rfl rfl ?_
  refine sg_iload (pc := 2323) dL_law_2323 rfl ?_
  refine sg_iconst (pc := 2325) (z := 1) dL_law_2325 (by decide) ?_
  first | refine sg_iaddB (pc := 2326) dL_law_2326 (by omega) (by omega) ?_ | refine sg_iadd (pc := 2326) dL_law_2326 ?_
  refine sg_iald (pc := 2327) dL_law_2327 I1.2.2.2.2.2.2.2.2.2 rfl (by omega) (jk_x (by omega) (by omega)) ?_
  try rw [e1]
  try rw [e2]
  try rw [e3]
  try rw [e4]
  try rw [e5]
  refine sg_aload_n (pc := 2328) (j := 0) dL_law_2328 rfl rfl ?_
  refine sg_iload (pc := 2329) dL_law_2329 rfl ?_
  refine sg_iconst (pc := 2331) (z := 2) dL_law_2331 (by decide) ?_
  first | refine sg_iaddB (pc := 2332) dL_law_2332 (by omega) (by omega) ?_ | refine sg_iadd (pc := 2332) dL_law_2332 ?_
  refine sg_iald (pc := 2333) dL_law_2333 I1.2.2.2.2.2.2.2.2.2 rfl (by omega) (jk_x (by omega) (by omega)) ?_
  try rw [e1]
  try rw [e2]
  try rw [e3]
  try rw [e4]
  try rw [e5]
  refine st_as (fun H r => jk_tgR (B := B) r) ?_
  have m2 := jk_Im I1
  have ab0 := jk_Jt jJ I1 X1
  refine sg_cE2 (pc := 2334) (d' := d - 1) (mc' := 0) (ms' := 0) 8 g dL_law_2334 cb_X7_codeAt ml_L_366 mn_X7_codeAt rfl mv_X7_codeAt (Nat.le_of_ble_eq_true rfl) (md_oc m2) (Nat.le_of_ble_eq_true rfl) (by first | exact jl_d0 hd rfl | omega) (by first | exact Nat.le_of_ble_eq_true rfl | omega) (by first | exact Nat.le_of_ble_eq_true rfl | omega) ?_
  refine f_X7_codeAt g (by first | exact jl_d1 hd rfl | omega) ab0 hL m2 (fun v2 h2 t0 t1 q2 y2 => sg_K1 ?_)
  refine st_as (fun H r => jk_unR I1.1 r) ?_
  have J2 : jk_J w B M O S xs (jk_unt B h2) A := jk_JM I1 (md_YW y2) (cf_XF jJ.2.1 F1) (y2.2.2.trans ab0) jJ.2.2.2
  have y2 := md_YW y2
  have ek : md_t h2 M = v1 := (Classical.byCases (fun q1 => (t0 q1).trans (show v1 = 1 from k0 q1).symm) (fun q1 => (t1 q1).trans (show v1 = 0 from k1 q1).symm))
  clear k0 t0 k1 t1
  have I2 := J2.1
  have eo := jk_oM I1 y2
  refine sg_istore (pc := 2337) dL_law_2337 (by decide) ?_
  refine sg_aload_n (pc := 2339) (j := 2) dL_law_2339 rfl rfl ?_
  obtain ⟨tv, eT⟩ := jk_th I2
  refine sg_cE0 (pc := 2340) (d' := d - 1) (mc' := 0) (ms' := 0) 8 g dL_law_2340 cb_X7_thrown ml_L_367 mn_X7_thrown rfl mv_X7_thrown (Nat.le_of_ble_eq_true rfl) ⟨_, eT⟩ (Nat.le_of_ble_eq_true rfl) (by first | exact jl_d0 hd rfl | omega) (by first | exact Nat.le_of_ble_eq_true rfl | omega) (by first | exact Nat.le_of_ble_eq_true rfl | omega) ?_
  refine s_X7_thrown g (by first | exact jl_d1 hd rfl | omega) eT (sg_K1 ?_)
  refine sg_iload (pc := 2343) dL_law_2343 rfl ?_
  refine sg_icmp_eq (pc := 2345) (tgt := 2350) dL_law_2345 (by decide) (fun ct => ?_) (fun ct => absurd ?_ ct)
  · refine sg_iload (pc := 2350) dL_law_2350 rfl ?_
    refine sg_if_ne (pc := 2352) (tgt := 2368) dL_law_2352 (by decide) (fun c2352 => ?_) (fun c2352 => ?_)
    · refine sg_goto (pc := 2368) (tgt := 2465) dL_law_2368 (by decide) ?_
      refine sg_lsub (lv' := [(0, _), (1, _), (2, _), (3, _), (4, _)]) ⟨rfl, rfl, rfl, rfl, rfl, trivial⟩ ?_
      exact K _ _ _ _ J2 (by omega) (by omega)
    · refine sg_aload_n (pc := 2355) (j := 3) dL_law_2355 rfl rfl ?_
      obtain ⟨ro, eO⟩ := jk_oz I2
      refine sg_getN (pc := 2356) g dL_law_2356 fk_L_13 eO rfl rfl ?_
      refine sg_iload (pc := 2359) dL_law_2359 rfl ?_
      refine sg_i2l (pc := 2361) dL_law_2361 ?_
      refine sg_lcmp (pc := 2362) dL_law_2362 (fun zc ec => ?_)
      refine sg_if_eq (pc := 2363) (tgt := 2368) dL_law_2363 (by decide) (fun cq => ?_) (fun cq => absurd (ec.mpr ?_) cq)
      · refine sg_goto (pc := 2368) (tgt := 2465) dL_law_2368 (by decide) ?_
        refine sg_lsub (lv' := [(0, _), (1, _), (2, _), (3, _), (4, _)]) ⟨rfl, rfl, rfl, rfl, rfl, trivial⟩ ?_
        exact K _ _ _ _ J2 (by omega) (by omega)
      · rw [eo, r1 (by omega), q2 (by omega)]
  · omega

set_option maxRecDepth 100000 in
set_option maxHeartbeats 1000000 in
theorem lw_c54 {w : sg_W} {Q : sg_O → sg_H → Prop} {h : sg_H} (g : sg_G w) (nc : jk_C w) (hJ : jz w) {d mc ms : Nat} (hd : 30 ≤ d) {B M O S j k n : Nat} {xs : List Int} {A : fa_A} (jJ : jk_J w B M O S xs h A) (hj : 6 * j + 6 ≤ xs.length) (hl : xs.length ≤ 3072) (hk : k + 1030 ≤ mc) (hn : n + (48 + 1350) ≤ ms) (K : ∀ (h' : sg_H) (k' n' : Nat) (A' : fa_A), jk_J w B M O S xs h' A' → k' ≤ k + 1030 → n' ≤ n + (48 + 1350) → sg_R w mi_L_law d mc ms Q 2465 [(0, sg_r S), (1, sg_r B), (2, sg_r M), (3, sg_r O), (4, sg_i (6 * (j : Int)))] [] h' k' n') : sg_R w mi_L_law d mc ms Q 2371 [(0, sg_r S), (1, sg_r B), (2, sg_r M), (3, sg_r O), (4, sg_i (6 * (j : Int)))] [] h k n := by
  obtain ⟨p1, e1⟩ : ∃ p, xs.getD (6 * (j : Int) + 1).toNat 0 = p := ⟨_, rfl⟩
  obtain ⟨p2, e2⟩ : ∃ p, xs.getD (6 * (j : Int) + 2).toNat 0 = p := ⟨_, rfl⟩
  obtain ⟨p3, e3⟩ : ∃ p, xs.getD (6 * (j : Int) + 3).toNat 0 = p := ⟨_, rfl⟩
  obtain ⟨p4, e4⟩ : ∃ p, xs.getD (6 * (j : Int) + 4).toNat 0 = p := ⟨_, rfl⟩
  obtain ⟨p5, e5⟩ : ∃ p, xs.getD (6 * (j : Int) + 5).toNat 0 = p := ⟨_, rfl⟩
  refine sg_aload_n (pc := 2371) (j := 1) dL_law_2371 rfl rfl ?_
  refine sg_aload_n (pc := 2372) (j := 0) dL_law_2372 rfl rfl ?_
  refine sg_iload (pc := 2373) dL_law_2373 rfl ?_
  refine sg_iconst (pc := 2375) (z := 1) dL_law_2375 (by decide) ?_
  first | refine sg_iaddB (pc := 2376) dL_law_2376 (by omega) (by omega) ?_ | refine sg_iadd (pc := 2376) dL_law_2376 ?_
  refine sg_iald (pc := 2377) dL_law_2377 jJ.1.2.2.2.2.2.2.2.2.2 rfl (by omega) (jk_x (by omega) (by omega)) ?_
  try rw [e1]
  try rw [e2]
  try rw [e3]
  try rw [e4]
  try rw [e5]
  refine sg_aload_n (pc := 2378) (j := 0) dL_law_2378 rfl rfl ?_
  refine sg_iload (pc := 2379) dL_law_2379 rfl ?_
  refine sg_iconst (pc := 2381) (z := 2) dL_law_2381 (by decide) ?_
  first | refine sg_iaddB (pc := 2382) dL_law_2382 (by omega) (by omega) ?_ | refine sg_iadd (pc := 2382) dL_law_2382 ?_
  refine sg_iald (pc := 2383) dL_law_2383 jJ.1.2.2.2.2.2.2.2.2.2 rfl (by omega) (jk_x (by omega) (by omega)) ?_
  try rw [e1]
  try rw [e2]
  try rw [e3]
  try rw [e4]
  try rw [e5]
  refine sg_aload_n (pc := 2384) (j := 3) dL_law_2384 rfl rfl ?_
  obtain ⟨L, hL⟩ : ∃ X, fa_L A (4 + p1.toNat) = X := ⟨_, rfl⟩
  refine st_cS4 (pc := 2385) (d' := d - 1) (mc' := 8) (ms' := 48) g dL_law_2385 cb_L_nth cw_L_nth ml_L_370 ms_L_nth (Nat.le_of_ble_eq_true rfl) (by first | exact jl_d0 hd rfl | omega) (by first | exact Nat.le_of_ble_eq_true rfl | omega) (by first | exact Nat.le_of_ble_eq_true rfl | omega) ?_
  refine f_L_nth g nc (by omega) jJ.1 jJ.2.1 jJ.2.2.2 hL (fun v1 h1 I1 X1 k0 k1 F1 r1 => sg_K1 ?_)
  refine sg_istore (pc := 2388) dL_law_2388 (by decide) ?_
  refine sg_aload_n (pc := 2390) (j := 2) dL_law_2390 rfl rfl ?_
  refine sg_aload_n (pc := 2391) (j := 0) dL_law_2391 rfl rfl ?_
  refine sg_iload (pc := 2392) dL_law_2392 rfl ?_
  refine sg_iconst (pc := 2394) (z := 1) dL_law_2394 (by decide) ?_
  first | refine sg_iaddB (pc := 2395) dL_law_2395 (by omega) (by omega) ?_ | refine sg_iadd (pc := 2395) dL_law_2395 ?_
  refine sg_iald (pc := 2396) dL_law_2396 I1.2.2.2.2.2.2.2.2.2 rfl (by omega) (jk_x (by omega) (by omega)) ?_
  try rw [e1]
  try rw [e2]
  try rw [e3]
  try rw [e4]
  try rw [e5]
  refine sg_aload_n (pc := 2397) (j := 0) dL_law_2397 rfl rfl ?_
  refine sg_iload (pc := 2398) dL_law_2398 rfl ?_
  refine sg_iconst (pc := 2400) (z := 2) dL_law_2400 (by decide) ?_
  first | refine sg_iaddB (pc := 2401) dL_law_2401 (by omega) (by omega) ?_ | refine sg_iadd (pc := 2401) dL_law_2401 ?_
  refine sg_iald (pc := 2402) dL_law_2402 I1.2.2.2.2.2.2.2.2.2 rfl (by omega) (jk_x (by omega) (by omega)) ?_
  try rw [e1]
  try rw [e2]
  try rw [e3]
  try rw [e4]
  try rw [e5]
  refine st_as (fun H r => jk_tgR (B := B) r) ?_
  have m2 := jk_Im I1
  have ab0 := jk_Jt jJ I1 X1
  refine sg_cE2 (pc := 2403) (d' := d - 1) (mc' := 152) (ms' := 1350) 8 g dL_law_2403 cb_X7_nth ml_L_372 mn_X7_nth rfl mv_X7_nth (Nat.le_of_ble_eq_true rfl) (md_oc m2) (Nat.le_of_ble_eq_true rfl) (by first | exact jl_d0 hd rfl | omega) (by first | exact Nat.le_of_ble_eq_true rfl | omega) (by first | exact Nat.le_of_ble_eq_true rfl | omega) ?_
  refine s_X7_nth g (by first | exact jl_d1 hd rfl | omega) m2 (fun v2 h2  y2 => sg_K1 ?_)
  refine st_as (fun H r => jk_unR I1.1 r) ?_
  have J2 : jk_J w B M O S xs (jk_unt B h2) A := jk_JM I1 (md_YW y2) (cf_XF jJ.2.1 F1) (y2.2.2.trans ab0) jJ.2.2.2
  have y2 := md_YW y2
  have I2 := J2.1
  refine sg_istore (pc := 2406) dL_law_2406 (by decide) ?_
  refine sg_goto (pc := 2408) (tgt := 2465) dL_law_2408 (by decide) ?_
  refine sg_lsub (lv' := [(0, _), (1, _), (2, _), (3, _), (4, _)]) ⟨rfl, rfl, rfl, rfl, rfl, trivial⟩ ?_
  exact K _ _ _ _ J2 (by omega) (by omega)

set_option maxRecDepth 100000 in
set_option maxHeartbeats 1000000 in
theorem lw_c55 {w : sg_W} {Q : sg_O → sg_H → Prop} {h : sg_H} (g : sg_G w) (nc : jk_C w) (hJ : jz w) {d mc ms : Nat} (hd : 30 ≤ d) {B M O S j k n : Nat} {xs : List Int} {A : fa_A} (jJ : jk_J w B M O S xs h A) (hj : 6 * j + 6 ≤ xs.length) (hl : xs.length ≤ 3072) (hk : k + 1030 ≤ mc) (hn : n + (48 + 0) ≤ ms) (K : ∀ (h' : sg_H) (k' n' : Nat) (A' : fa_A), jk_J w B M O S xs h' A' → k' ≤ k + 1030 → n' ≤ n + (48 + 0) → sg_R w mi_L_law d mc ms Q 2465 [(0, sg_r S), (1, sg_r B), (2, sg_r M), (3, sg_r O), (4, sg_i (6 * (j : Int)))] [] h' k' n') : sg_R w mi_L_law d mc ms Q 2411 [(0, sg_r S), (1, sg_r B), (2, sg_r M), (3, sg_r O), (4, sg_i (6 * (j : Int)))] [] h k n := by
  obtain ⟨p1, e1⟩ : ∃ p, xs.getD (6 * (j : Int) + 1).toNat 0 = p := ⟨_, rfl⟩
  obtain ⟨p2, e2⟩ : ∃ p, xs.getD (6 * (j : Int) + 2).toNat 0 = p := ⟨_, rfl⟩
  obtain ⟨p3, e3⟩ : ∃ p, xs.getD (6 * (j : Int) + 3).toNat 0 = p := ⟨_, rfl⟩
  obtain ⟨p4, e4⟩ : ∃ p, xs.getD (6 * (j : Int) + 4).toNat 0 = p := ⟨_, rfl⟩
  obtain ⟨p5, e5⟩ : ∃ p, xs.getD (6 * (j : Int) + 5).toNat 0 = p := ⟨_, rfl⟩
  refine sg_aload_n (pc := 2411) (j := 1) dL_law_2411 rfl rfl ?_
  refine sg_aload_n (pc := 2412) (j := 0) dL_law_2412 rfl rfl ?_
  refine sg_iload (pc := 2413) dL_law_2413 rfl ?_
  refine sg_iconst (pc := 2415) (z := 1) dL_law_2415 (by decide) ?_
  first | refine sg_iaddB (pc := 2416) dL_law_2416 (by omega) (by omega) ?_ | refine sg_iadd (pc := 2416) dL_law_2416 ?_
  refine sg_iald (pc := 2417) dL_law_2417 jJ.1.2.2.2.2.2.2.2.2.2 rfl (by omega) (jk_x (by omega) (by omega)) ?_
  try rw [e1]
  try rw [e2]
  try rw [e3]
  try rw [e4]
  try rw [e5]
  refine sg_aload_n (pc := 2418) (j := 3) dL_law_2418 rfl rfl ?_
  refine st_cS3 (pc := 2419) (d' := d - 1) (mc' := 8) (ms' := 48) g dL_law_2419 cb_L_house cw_L_house ml_L_373 ms_L_house (Nat.le_of_ble_eq_true rfl) (by first | exact jl_d0 hd rfl | omega) (by first | exact Nat.le_of_ble_eq_true rfl | omega) (by first | exact Nat.le_of_ble_eq_true rfl | omega) ?_
  refine f_L_house g nc (by omega) jJ.1 jJ.2.1 jJ.2.2.2 (fun v1 h1 I1 X1 k0 k1 F1 r1 => sg_K1 ?_)
  refine sg_istore (pc := 2422) dL_law_2422 (by decide) ?_
  refine sg_aload_n (pc := 2424) (j := 2) dL_law_2424 rfl rfl ?_
  refine sg_aload_n (pc := 2425) (j := 0) dL_law_2425 rfl rfl ?_
  refine sg_iload (pc := 2426) dL_law_2426 rfl ?_
  refine sg_iconst (pc := 2428) (z := 1) dL_law_2428 (by decide) ?_
  first | refine sg_iaddB (pc := 2429) dL_law_2429 (by omega) (by omega) ?_ | refine sg_iadd (pc := 2429) dL_law_2429 ?_
  refine sg_iald (pc := 2430) dL_law_2430 I1.2.2.2.2.2.2.2.2.2 rfl (by omega) (jk_x (by omega) (by omega)) ?_
  try rw [e1]
  try rw [e2]
  try rw [e3]
  try rw [e4]
  try rw [e5]
  refine st_as (fun H r => jk_tgR (B := B) r) ?_
  have m2 := jk_Im I1
  have ab0 := jk_Jt jJ I1 X1
  refine sg_cE1 (pc := 2431) (d' := d - 1) (mc' := 0) (ms' := 0) 8 g dL_law_2431 cb_X7_house ml_L_375 mn_X7_house rfl mv_X7_house (Nat.le_of_ble_eq_true rfl) (md_oc m2) (Nat.le_of_ble_eq_true rfl) (by first | exact jl_d0 hd rfl | omega) (by first | exact Nat.le_of_ble_eq_true rfl | omega) (by first | exact Nat.le_of_ble_eq_true rfl | omega) ?_
  refine s_X7_house g (by first | exact jl_d1 hd rfl | omega) m2 (fun v2 h2  y2 => sg_K1 ?_)
  refine st_as (fun H r => jk_unR I1.1 r) ?_
  have J2 : jk_J w B M O S xs (jk_unt B h2) A := jk_JM I1 (md_YW y2) (cf_XF jJ.2.1 F1) (y2.2.2.trans ab0) jJ.2.2.2
  have y2 := md_YW y2
  have I2 := J2.1
  refine sg_istore (pc := 2434) dL_law_2434 (by decide) ?_
  refine sg_goto (pc := 2436) (tgt := 2465) dL_law_2436 (by decide) ?_
  refine sg_lsub (lv' := [(0, _), (1, _), (2, _), (3, _), (4, _)]) ⟨rfl, rfl, rfl, rfl, rfl, trivial⟩ ?_
  exact K _ _ _ _ J2 (by omega) (by omega)

set_option maxRecDepth 100000 in
set_option maxHeartbeats 1000000 in
theorem lw_c56 {w : sg_W} {Q : sg_O → sg_H → Prop} {h : sg_H} (g : sg_G w) (nc : jk_C w) (hJ : jz w) {d mc ms : Nat} (hd : 30 ≤ d) {B M O S j k n : Nat} {xs : List Int} {A : fa_A} (jJ : jk_J w B M O S xs h A) (hj : 6 * j + 6 ≤ xs.length) (hl : xs.length ≤ 3072) (hk : k + 1030 ≤ mc) (hn : n + (0 + 0) ≤ ms) (K : ∀ (h' : sg_H) (k' n' : Nat) (A' : fa_A), jk_J w B M O S xs h' A' → k' ≤ k + 1030 → n' ≤ n + (0 + 0) → sg_R w mi_L_law d mc ms Q 2465 [(0, sg_r S), (1, sg_r B), (2, sg_r M), (3, sg_r O), (4, sg_i (6 * (j : Int)))] [] h' k' n') : sg_R w mi_L_law d mc ms Q 2439 [(0, sg_r S), (1, sg_r B), (2, sg_r M), (3, sg_r O), (4, sg_i (6 * (j : Int)))] [] h k n := by
  obtain ⟨p1, e1⟩ : ∃ p, xs.getD (6 * (j : Int) + 1).toNat 0 = p := ⟨_, rfl⟩
  obtain ⟨p2, e2⟩ : ∃ p, xs.getD (6 * (j : Int) + 2).toNat 0 = p := ⟨_, rfl⟩
  obtain ⟨p3, e3⟩ : ∃ p, xs.getD (6 * (j : Int) + 3).toNat 0 = p := ⟨_, rfl⟩
  obtain ⟨p4, e4⟩ : ∃ p, xs.getD (6 * (j : Int) + 4).toNat 0 = p := ⟨_, rfl⟩
  obtain ⟨p5, e5⟩ : ∃ p, xs.getD (6 * (j : Int) + 5).toNat 0 = p := ⟨_, rfl⟩
  refine sg_aload_n (pc := 2439) (j := 1) dL_law_2439 rfl rfl ?_
  refine sg_cE0 (pc := 2440) (d' := d - 1) (mc' := 0) (ms' := 0) 6 g dL_law_2440 cb_X5_isSound ml_L_376 mn_X5_isSound rfl mv_X5_isSound (Nat.le_of_ble_eq_true rfl) (ck_oc jJ.1.2.2.1) (Nat.le_of_ble_eq_true rfl) (by first | exact jl_d0 hd rfl | omega) (by first | exact Nat.le_of_ble_eq_true rfl | omega) (by first | exact Nat.le_of_ble_eq_true rfl | omega) ?_
  refine s_X5_isSound g (by first | exact jl_d1 hd rfl | omega) jJ.1.2.2.1 (fun v1 c1 => sg_K1 ?_)
  have I1 := jJ.1
  have X1 : jk_X (jk_cut B h) (jk_cut B h) := jk_X0
  have F1 : jk_F B h h := jk_F0
  refine sg_pop (pc := 2443) dL_law_2443 rfl ?_
  refine sg_aload_n (pc := 2444) (j := 2) dL_law_2444 rfl rfl ?_
  refine st_as (fun H r => jk_tgR (B := B) r) ?_
  have m2 := jk_Im I1
  have ab0 := jk_Jt jJ I1 X1
  refine sg_cE0 (pc := 2445) (d' := d - 1) (mc' := 0) (ms' := 0) 8 g dL_law_2445 cb_X7_isSound ml_L_380 mn_X7_isSound rfl mv_X7_isSound (Nat.le_of_ble_eq_true rfl) (md_oc m2) (Nat.le_of_ble_eq_true rfl) (by first | exact jl_d0 hd rfl | omega) (by first | exact Nat.le_of_ble_eq_true rfl | omega) (by first | exact Nat.le_of_ble_eq_true rfl | omega) ?_
  refine s_X7_isSound g (by first | exact jl_d1 hd rfl | omega) m2 (fun v2 h2 c2_0 y2 => sg_K1 ?_)
  refine st_as (fun H r => jk_unR I1.1 r) ?_
  have J2 : jk_J w B M O S xs (jk_unt B h2) A := jk_JM I1 (md_YW y2) (cf_XF jJ.2.1 F1) (y2.2.2.trans ab0) jJ.2.2.2
  have y2 := md_YW y2
  have I2 := J2.1
  refine sg_pop (pc := 2448) dL_law_2448 rfl ?_
  refine sg_goto (pc := 2449) (tgt := 2465) dL_law_2449 (by decide) ?_
  refine sg_lsub (lv' := [(0, _), (1, _), (2, _), (3, _), (4, _)]) ⟨rfl, rfl, rfl, rfl, rfl, trivial⟩ ?_
  exact K _ _ _ _ J2 (by omega) (by omega)

set_option maxRecDepth 100000 in
set_option maxHeartbeats 1000000 in
theorem lw_c57 {w : sg_W} {Q : sg_O → sg_H → Prop} {h : sg_H} (g : sg_G w) (nc : jk_C w) (hJ : jz w) {d mc ms : Nat} (hd : 30 ≤ d) {B M O S j k n : Nat} {xs : List Int} {A : fa_A} (jJ : jk_J w B M O S xs h A) (hj : 6 * j + 6 ≤ xs.length) (hl : xs.length ≤ 3072) (hk : k + 1030 ≤ mc) (hn : n + (0 + 8070) ≤ ms) (K : ∀ (h' : sg_H) (k' n' : Nat) (A' : fa_A), jk_J w B M O S xs h' A' → k' ≤ k + 1030 → n' ≤ n + (0 + 8070) → sg_R w mi_L_law d mc ms Q 2465 [(0, sg_r S), (1, sg_r B), (2, sg_r M), (3, sg_r O), (4, sg_i (6 * (j : Int)))] [] h' k' n') : sg_R w mi_L_law d mc ms Q 2452 [(0, sg_r S), (1, sg_r B), (2, sg_r M), (3, sg_r O), (4, sg_i (6 * (j : Int)))] [] h k n := by
  obtain ⟨p1, e1⟩ : ∃ p, xs.getD (6 * (j : Int) + 1).toNat 0 = p := ⟨_, rfl⟩
  obtain ⟨p2, e2⟩ : ∃ p, xs.getD (6 * (j : Int) + 2).toNat 0 = p := ⟨_, rfl⟩
  obtain ⟨p3, e3⟩ : ∃ p, xs.getD (6 * (j : Int) + 3).toNat 0 = p := ⟨_, rfl⟩
  obtain ⟨p4, e4⟩ : ∃ p, xs.getD (6 * (j : Int) + 4).toNat 0 = p := ⟨_, rfl⟩
  obtain ⟨p5, e5⟩ : ∃ p, xs.getD (6 * (j : Int) + 5).toNat 0 = p := ⟨_, rfl⟩
  refine sg_aload_n (pc := 2452) (j := 1) dL_law_2452 rfl rfl ?_
  refine sg_cE0 (pc := 2453) (d' := d - 1) (mc' := 0) (ms' := 0) 6 g dL_law_2453 cb_X5_digest ml_L_381 mn_X5_digest rfl mv_X5_digest (Nat.le_of_ble_eq_true rfl) (ck_oc jJ.1.2.2.1) (Nat.le_of_ble_eq_true rfl) (by first | exact jl_d0 hd rfl | omega) (by first | exact Nat.le_of_ble_eq_true rfl | omega) (by first | exact Nat.le_of_ble_eq_true rfl | omega) ?_
  refine s_X5_digest g (by first | exact jl_d1 hd rfl | omega) jJ.1.2.2.1 (fun v1 => sg_K1 ?_)
  have I1 := jJ.1
  have X1 : jk_X (jk_cut B h) (jk_cut B h) := jk_X0
  have F1 : jk_F B h h := jk_F0
  refine sg_pop2 (pc := 2456) dL_law_2456 ?_
  refine sg_aload_n (pc := 2457) (j := 2) dL_law_2457 rfl rfl ?_
  refine st_as (fun H r => jk_tgR (B := B) r) ?_
  have m2 := jk_Im I1
  have ab0 := jk_Jt jJ I1 X1
  refine sg_cE0 (pc := 2458) (d' := d - 1) (mc' := 1016) (ms' := 8070) 8 g dL_law_2458 cb_X7_digest ml_L_385 mn_X7_digest rfl mv_X7_digest (Nat.le_of_ble_eq_true rfl) (md_oc m2) (Nat.le_of_ble_eq_true rfl) (by first | exact jl_d0 hd rfl | omega) (by first | exact Nat.le_of_ble_eq_true rfl | omega) (by first | exact Nat.le_of_ble_eq_true rfl | omega) ?_
  refine s_X7_digest g (by first | exact jl_d1 hd rfl | omega) m2 (fun v2 h2  y2 => sg_K1 ?_)
  refine st_as (fun H r => jk_unR I1.1 r) ?_
  have J2 : jk_J w B M O S xs (jk_unt B h2) A := jk_JM I1 (md_YW y2) (cf_XF jJ.2.1 F1) (y2.2.2.trans ab0) jJ.2.2.2
  have y2 := md_YW y2
  have I2 := J2.1
  refine sg_pop2 (pc := 2461) dL_law_2461 ?_
  refine sg_goto (pc := 2462) (tgt := 2465) dL_law_2462 (by decide) ?_
  refine sg_lsub (lv' := [(0, _), (1, _), (2, _), (3, _), (4, _)]) ⟨rfl, rfl, rfl, rfl, rfl, trivial⟩ ?_
  exact K _ _ _ _ J2 (by omega) (by omega)

