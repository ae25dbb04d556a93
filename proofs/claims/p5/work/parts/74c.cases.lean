set_option maxRecDepth 100000 in
set_option maxHeartbeats 1000000 in
theorem lw_c20 {w : sg_W} {Q : sg_O → sg_H → Prop} {h : sg_H} (g : sg_G w) (nc : jk_C w) (hJ : jz w) {d mc ms : Nat} (hd : 30 ≤ d) {B M O S j k n : Nat} {xs : List Int} {A : fa_A} (jJ : jk_J w B M O S xs h A) (hj : 6 * j + 6 ≤ xs.length) (hl : xs.length ≤ 3072) (hk : k + 1030 ≤ mc) (hn : n + (48 + 0) ≤ ms) (K : ∀ (h' : sg_H) (k' n' : Nat) (A' : fa_A), jk_J w B M O S xs h' A' → k' ≤ k + 1030 → n' ≤ n + (48 + 0) → sg_R w mi_L_law d mc ms Q 2465 [(0, sg_r S), (1, sg_r B), (2, sg_r M), (3, sg_r O), (4, sg_i (6 * (j : Int)))] [] h' k' n') : sg_R w mi_L_law d mc ms Q 1050 [(0, sg_r S), (1, sg_r B), (2, sg_r M), (3, sg_r O), (4, sg_i (6 * (j : Int)))] [] h k n := by
  obtain ⟨p1, e1⟩ : ∃ p, xs.getD (6 * (j : Int) + 1).toNat 0 = p := ⟨_, rfl⟩
  obtain ⟨p2, e2⟩ : ∃ p, xs.getD (6 * (j : Int) + 2).toNat 0 = p := ⟨_, rfl⟩
  obtain ⟨p3, e3⟩ : ∃ p, xs.getD (6 * (j : Int) + 3).toNat 0 = p := ⟨_, rfl⟩
  obtain ⟨p4, e4⟩ : ∃ p, xs.getD (6 * (j : Int) + 4).toNat 0 = p := ⟨_, rfl⟩
  obtain ⟨p5, e5⟩ : ∃ p, xs.getD (6 * (j : Int) + 5).toNat 0 = p := ⟨_, rfl⟩
  refine sg_aload_n (pc := 1050) (j := 1) dL_law_1050 rfl rfl ?_
  refine sg_aload_n (pc := 1051) (j := 0) dL_law_1051 rfl rfl ?_
  refine sg_iload (pc := 1052) dL_law_1052 rfl ?_
  refine sg_iconst (pc := 1054) (z := 1) dL_law_1054 (by decide) ?_
  first | refine sg_iaddB (pc := 1055) dL_law_1055 (by omega) (by omega) ?_ | refine sg_iadd (pc := 1055) dL_law_1055 ?_
  refine sg_iald (pc := 1056) dL_law_1056 jJ.1.2.2.2.2.2.2.2.2.2 rfl (by omega) (jk_x (by omega) (by omega)) ?_
  try rw [e1]
  try rw [e2]
  try rw [e3]
  try rw [e4]
  try rw [e5]
  refine sg_aload_n (pc := 1057) (j := 3) dL_law_1057 rfl rfl ?_
  refine st_cS3 (pc := 1058) (d' := d - 1) (mc' := 8) (ms' := 48) g dL_law_1058 cb_L_isLetterOrDigit cw_L_isLetterOrDigit ml_L_262 ms_L_isLetterOrDigit (Nat.le_of_ble_eq_true rfl) (by first | exact jl_d0 hd rfl | omega) (by first | exact Nat.le_of_ble_eq_true rfl | omega) (by first | exact Nat.le_of_ble_eq_true rfl | omega) ?_
  refine s_L_isLetterOrDigit g nc (by omega) jJ.1 (fun v1 h1 I1 X1 F1 k1 o1 => sg_K1 ?_)
  refine sg_istore (pc := 1061) dL_law_1061 (by decide) ?_
  refine sg_aload_n (pc := 1063) (j := 2) dL_law_1063 rfl rfl ?_
  refine sg_aload_n (pc := 1064) (j := 0) dL_law_1064 rfl rfl ?_
  refine sg_iload (pc := 1065) dL_law_1065 rfl ?_
  refine sg_iconst (pc := 1067) (z := 1) dL_law_1067 (by decide) ?_
  first | refine sg_iaddB (pc := 1068) dL_law_1068 (by omega) (by omega) ?_ | refine sg_iadd (pc := 1068) dL_law_1068 ?_
  refine sg_iald (pc := 1069) dL_law_1069 I1.2.2.2.2.2.2.2.2.2 rfl (by omega) (jk_x (by omega) (by omega)) ?_
  try rw [e1]
  try rw [e2]
  try rw [e3]
  try rw [e4]
  try rw [e5]
  refine st_as (fun H r => jk_tgR (B := B) r) ?_
  have m2 := jk_Im I1
  have ab0 := jk_Jt jJ I1 X1
  refine sg_cE1 (pc := 1070) (d' := d - 1) (mc' := 0) (ms' := 0) 8 g dL_law_1070 cb_X7_isLetterOrDigit ml_L_264 mn_X7_isLetterOrDigit rfl mv_X7_isLetterOrDigit (Nat.le_of_ble_eq_true rfl) (md_oc m2) (Nat.le_of_ble_eq_true rfl) (by first | exact jl_d0 hd rfl | omega) (by first | exact Nat.le_of_ble_eq_true rfl | omega) (by first | exact Nat.le_of_ble_eq_true rfl | omega) ?_
  refine s_X7_isLetterOrDigit g (by first | exact jl_d1 hd rfl | omega) m2 (fun v2 h2 c2_0 c2_1 c2_2 y2 => sg_K1 ?_)
  refine st_as (fun H r => jk_unR I1.1 r) ?_
  have J2 : jk_J w B M O S xs (jk_unt B h2) A := jk_JM I1 (md_YW y2) (cf_XF jJ.2.1 F1) (y2.2.2.trans ab0) jJ.2.2.2
  have y2 := md_YW y2
  have I2 := J2.1
  refine sg_istore (pc := 1073) dL_law_1073 (by decide) ?_
  refine sg_goto (pc := 1075) (tgt := 2465) dL_law_1075 (by decide) ?_
  refine sg_lsub (lv' := [(0, _), (1, _), (2, _), (3, _), (4, _)]) ⟨rfl, rfl, rfl, rfl, rfl, trivial⟩ ?_
  exact K _ _ _ _ J2 (by omega) (by omega)

set_option maxRecDepth 100000 in
set_option maxHeartbeats 1000000 in
theorem lw_c21 {w : sg_W} {Q : sg_O → sg_H → Prop} {h : sg_H} (g : sg_G w) (nc : jk_C w) (hJ : jz w) {d mc ms : Nat} (hd : 30 ≤ d) {B M O S j k n : Nat} {xs : List Int} {A : fa_A} (jJ : jk_J w B M O S xs h A) (hj : 6 * j + 6 ≤ xs.length) (hl : xs.length ≤ 3072) (hk : k + 1030 ≤ mc) (hn : n + (48 + 0) ≤ ms) (K : ∀ (h' : sg_H) (k' n' : Nat) (A' : fa_A), jk_J w B M O S xs h' A' → k' ≤ k + 1030 → n' ≤ n + (48 + 0) → sg_R w mi_L_law d mc ms Q 2465 [(0, sg_r S), (1, sg_r B), (2, sg_r M), (3, sg_r O), (4, sg_i (6 * (j : Int)))] [] h' k' n') : sg_R w mi_L_law d mc ms Q 1078 [(0, sg_r S), (1, sg_r B), (2, sg_r M), (3, sg_r O), (4, sg_i (6 * (j : Int)))] [] h k n := by
  obtain ⟨p1, e1⟩ : ∃ p, xs.getD (6 * (j : Int) + 1).toNat 0 = p := ⟨_, rfl⟩
  obtain ⟨p2, e2⟩ : ∃ p, xs.getD (6 * (j : Int) + 2).toNat 0 = p := ⟨_, rfl⟩
  obtain ⟨p3, e3⟩ : ∃ p, xs.getD (6 * (j : Int) + 3).toNat 0 = p := ⟨_, rfl⟩
  obtain ⟨p4, e4⟩ : ∃ p, xs.getD (6 * (j : Int) + 4).toNat 0 = p := ⟨_, rfl⟩
  obtain ⟨p5, e5⟩ : ∃ p, xs.getD (6 * (j : Int) + 5).toNat 0 = p := ⟨_, rfl⟩
  refine sg_aload_n (pc := 1078) (j := 1) dL_law_1078 rfl rfl ?_
  refine sg_aload_n (pc := 1079) (j := 0) dL_law_1079 rfl rfl ?_
  refine sg_iload (pc := 1080) dL_law_1080 rfl ?_
  refine sg_iconst (pc := 1082) (z := 1) dL_law_1082 (by decide) ?_
  first | refine sg_iaddB (pc := 1083) dL_law_1083 (by omega) (by omega) ?_ | refine sg_iadd (pc := 1083) dL_law_1083 ?_
  refine sg_iald (pc := 1084) dL_law_1084 jJ.1.2.2.2.2.2.2.2.2.2 rfl (by omega) (jk_x (by omega) (by omega)) ?_
  try rw [e1]
  try rw [e2]
  try rw [e3]
  try rw [e4]
  try rw [e5]
  refine sg_aload_n (pc := 1085) (j := 3) dL_law_1085 rfl rfl ?_
  refine st_cS3 (pc := 1086) (d' := d - 1) (mc' := 8) (ms' := 48) g dL_law_1086 cb_L_isWhite cw_L_isWhite ml_L_265 ms_L_isWhite (Nat.le_of_ble_eq_true rfl) (by first | exact jl_d0 hd rfl | omega) (by first | exact Nat.le_of_ble_eq_true rfl | omega) (by first | exact Nat.le_of_ble_eq_true rfl | omega) ?_
  refine s_L_isWhite g nc (by omega) jJ.1 (fun v1 h1 I1 X1 F1 k1 o1 => sg_K1 ?_)
  refine sg_istore (pc := 1089) dL_law_1089 (by decide) ?_
  refine sg_aload_n (pc := 1091) (j := 2) dL_law_1091 rfl rfl ?_
  refine sg_aload_n (pc := 1092) (j := 0) dL_law_1092 rfl rfl ?_
  refine sg_iload (pc := 1093) dL_law_1093 rfl ?_
  refine sg_iconst (pc := 1095) (z := 1) dL_law_1095 (by decide) ?_
  first | refine sg_iaddB (pc := 1096) dL_law_1096 (by omega) (by omega) ?_ | refine sg_iadd (pc := 1096) dL_law_1096 ?_
  refine sg_iald (pc := 1097) dL_law_1097 I1.2.2.2.2.2.2.2.2.2 rfl (by omega) (jk_x (by omega) (by omega)) ?_
  try rw [e1]
  try rw [e2]
  try rw [e3]
  try rw [e4]
  try rw [e5]
  refine st_as (fun H r => jk_tgR (B := B) r) ?_
  have m2 := jk_Im I1
  have ab0 := jk_Jt jJ I1 X1
  refine sg_cE1 (pc := 1098) (d' := d - 1) (mc' := 0) (ms' := 0) 8 g dL_law_1098 cb_X7_isWhite ml_L_267 mn_X7_isWhite rfl mv_X7_isWhite (Nat.le_of_ble_eq_true rfl) (md_oc m2) (Nat.le_of_ble_eq_true rfl) (by first | exact jl_d0 hd rfl | omega) (by first | exact Nat.le_of_ble_eq_true rfl | omega) (by first | exact Nat.le_of_ble_eq_true rfl | omega) ?_
  refine s_X7_isWhite g (by first | exact jl_d1 hd rfl | omega) m2 (fun v2 h2 c2_0 c2_1 c2_2 y2 => sg_K1 ?_)
  refine st_as (fun H r => jk_unR I1.1 r) ?_
  have J2 : jk_J w B M O S xs (jk_unt B h2) A := jk_JM I1 (md_YW y2) (cf_XF jJ.2.1 F1) (y2.2.2.trans ab0) jJ.2.2.2
  have y2 := md_YW y2
  have I2 := J2.1
  refine sg_istore (pc := 1101) dL_law_1101 (by decide) ?_
  refine sg_goto (pc := 1103) (tgt := 2465) dL_law_1103 (by decide) ?_
  refine sg_lsub (lv' := [(0, _), (1, _), (2, _), (3, _), (4, _)]) ⟨rfl, rfl, rfl, rfl, rfl, trivial⟩ ?_
  exact K _ _ _ _ J2 (by omega) (by omega)

set_option maxRecDepth 100000 in
set_option maxHeartbeats 1000000 in
theorem lw_c22 {w : sg_W} {Q : sg_O → sg_H → Prop} {h : sg_H} (g : sg_G w) (nc : jk_C w) (hJ : jz w) {d mc ms : Nat} (hd : 30 ≤ d) {B M O S j k n : Nat} {xs : List Int} {A : fa_A} (jJ : jk_J w B M O S xs h A) (hj : 6 * j + 6 ≤ xs.length) (hl : xs.length ≤ 3072) (hk : k + 1030 ≤ mc) (hn : n + (48 + 0) ≤ ms) (K : ∀ (h' : sg_H) (k' n' : Nat) (A' : fa_A), jk_J w B M O S xs h' A' → k' ≤ k + 1030 → n' ≤ n + (48 + 0) → sg_R w mi_L_law d mc ms Q 2465 [(0, sg_r S), (1, sg_r B), (2, sg_r M), (3, sg_r O), (4, sg_i (6 * (j : Int)))] [] h' k' n') : sg_R w mi_L_law d mc ms Q 1106 [(0, sg_r S), (1, sg_r B), (2, sg_r M), (3, sg_r O), (4, sg_i (6 * (j : Int)))] [] h k n := by
  obtain ⟨p1, e1⟩ : ∃ p, xs.getD (6 * (j : Int) + 1).toNat 0 = p := ⟨_, rfl⟩
  obtain ⟨p2, e2⟩ : ∃ p, xs.getD (6 * (j : Int) + 2).toNat 0 = p := ⟨_, rfl⟩
  obtain ⟨p3, e3⟩ : ∃ p, xs.getD (6 * (j : Int) + 3).toNat 0 = p := ⟨_, rfl⟩
  obtain ⟨p4, e4⟩ : ∃ p, xs.getD (6 * (j : Int) + 4).toNat 0 = p := ⟨_, rfl⟩
  obtain ⟨p5, e5⟩ : ∃ p, xs.getD (6 * (j : Int) + 5).toNat 0 = p := ⟨_, rfl⟩
  refine sg_aload_n (pc := 1106) (j := 1) dL_law_1106 rfl rfl ?_
  refine sg_aload_n (pc := 1107) (j := 0) dL_law_1107 rfl rfl ?_
  refine sg_iload (pc := 1108) dL_law_1108 rfl ?_
  refine sg_iconst (pc := 1110) (z := 1) dL_law_1110 (by decide) ?_
  first | refine sg_iaddB (pc := 1111) dL_law_1111 (by omega) (by omega) ?_ | refine sg_iadd (pc := 1111) dL_law_1111 ?_
  refine sg_iald (pc := 1112) dL_law_1112 jJ.1.2.2.2.2.2.2.2.2.2 rfl (by omega) (jk_x (by omega) (by omega)) ?_
  try rw [e1]
  try rw [e2]
  try rw [e3]
  try rw [e4]
  try rw [e5]
  refine sg_aload_n (pc := 1113) (j := 3) dL_law_1113 rfl rfl ?_
  refine st_cS3 (pc := 1114) (d' := d - 1) (mc' := 8) (ms' := 48) g dL_law_1114 cb_L_isGreat cw_L_isGreat ml_L_268 ms_L_isGreat (Nat.le_of_ble_eq_true rfl) (by first | exact jl_d0 hd rfl | omega) (by first | exact Nat.le_of_ble_eq_true rfl | omega) (by first | exact Nat.le_of_ble_eq_true rfl | omega) ?_
  refine s_L_isGreat g nc (by omega) jJ.1 (fun v1 h1 I1 X1 F1 k1 o1 => sg_K1 ?_)
  refine sg_istore (pc := 1117) dL_law_1117 (by decide) ?_
  refine sg_aload_n (pc := 1119) (j := 2) dL_law_1119 rfl rfl ?_
  refine sg_aload_n (pc := 1120) (j := 0) dL_law_1120 rfl rfl ?_
  refine sg_iload (pc := 1121) dL_law_1121 rfl ?_
  refine sg_iconst (pc := 1123) (z := 1) dL_law_1123 (by decide) ?_
  first | refine sg_iaddB (pc := 1124) dL_law_1124 (by omega) (by omega) ?_ | refine sg_iadd (pc := 1124) dL_law_1124 ?_
  refine sg_iald (pc := 1125) dL_law_1125 I1.2.2.2.2.2.2.2.2.2 rfl (by omega) (jk_x (by omega) (by omega)) ?_
  try rw [e1]
  try rw [e2]
  try rw [e3]
  try rw [e4]
  try rw [e5]
  refine st_as (fun H r => jk_tgR (B := B) r) ?_
  have m2 := jk_Im I1
  have ab0 := jk_Jt jJ I1 X1
  refine sg_cE1 (pc := 1126) (d' := d - 1) (mc' := 0) (ms' := 0) 8 g dL_law_1126 cb_X7_isGreat ml_L_270 mn_X7_isGreat rfl mv_X7_isGreat (Nat.le_of_ble_eq_true rfl) (md_oc m2) (Nat.le_of_ble_eq_true rfl) (by first | exact jl_d0 hd rfl | omega) (by first | exact Nat.le_of_ble_eq_true rfl | omega) (by first | exact Nat.le_of_ble_eq_true rfl | omega) ?_
  refine s_X7_isGreat g (by first | exact jl_d1 hd rfl | omega) m2 (fun v2 h2 c2_0 c2_1 c2_2 y2 => sg_K1 ?_)
  refine st_as (fun H r => jk_unR I1.1 r) ?_
  have J2 : jk_J w B M O S xs (jk_unt B h2) A := jk_JM I1 (md_YW y2) (cf_XF jJ.2.1 F1) (y2.2.2.trans ab0) jJ.2.2.2
  have y2 := md_YW y2
  have I2 := J2.1
  refine sg_istore (pc := 1129) dL_law_1129 (by decide) ?_
  refine sg_goto (pc := 1131) (tgt := 2465) dL_law_1131 (by decide) ?_
  refine sg_lsub (lv' := [(0, _), (1, _), (2, _), (3, _), (4, _)]) ⟨rfl, rfl, rfl, rfl, rfl, trivial⟩ ?_
  exact K _ _ _ _ J2 (by omega) (by omega)

set_option maxRecDepth 100000 in
set_option maxHeartbeats 1000000 in
theorem lw_c23 {w : sg_W} {Q : sg_O → sg_H → Prop} {h : sg_H} (g : sg_G w) (nc : jk_C w) (hJ : jz w) {d mc ms : Nat} (hd : 30 ≤ d) {B M O S j k n : Nat} {xs : List Int} {A : fa_A} (jJ : jk_J w B M O S xs h A) (hj : 6 * j + 6 ≤ xs.length) (hl : xs.length ≤ 3072) (hk : k + 1030 ≤ mc) (hn : n + (48 + 0) ≤ ms) (K : ∀ (h' : sg_H) (k' n' : Nat) (A' : fa_A), jk_J w B M O S xs h' A' → k' ≤ k + 1030 → n' ≤ n + (48 + 0) → sg_R w mi_L_law d mc ms Q 2465 [(0, sg_r S), (1, sg_r B), (2, sg_r M), (3, sg_r O), (4, sg_i (6 * (j : Int)))] [] h' k' n') : sg_R w mi_L_law d mc ms Q 1134 [(0, sg_r S), (1, sg_r B), (2, sg_r M), (3, sg_r O), (4, sg_i (6 * (j : Int)))] [] h k n := by
  obtain ⟨p1, e1⟩ : ∃ p, xs.getD (6 * (j : Int) + 1).toNat 0 = p := ⟨_, rfl⟩
  obtain ⟨p2, e2⟩ : ∃ p, xs.getD (6 * (j : Int) + 2).toNat 0 = p := ⟨_, rfl⟩
  obtain ⟨p3, e3⟩ : ∃ p, xs.getD (6 * (j : Int) + 3).toNat 0 = p := ⟨_, rfl⟩
  obtain ⟨p4, e4⟩ : ∃ p, xs.getD (6 * (j : Int) + 4).toNat 0 = p := ⟨_, rfl⟩
  obtain ⟨p5, e5⟩ : ∃ p, xs.getD (6 * (j : Int) + 5).toNat 0 = p := ⟨_, rfl⟩
  refine sg_aload_n (pc := 1134) (j := 1) dL_law_1134 rfl rfl ?_
  refine sg_aload_n (pc := 1135) (j := 0) dL_law_1135 rfl rfl ?_
  refine sg_iload (pc := 1136) dL_law_1136 rfl ?_
  refine sg_iconst (pc := 1138) (z := 1) dL_law_1138 (by decide) ?_
  first | refine sg_iaddB (pc := 1139) dL_law_1139 (by omega) (by omega) ?_ | refine sg_iadd (pc := 1139) dL_law_1139 ?_
  refine sg_iald (pc := 1140) dL_law_1140 jJ.1.2.2.2.2.2.2.2.2.2 rfl (by omega) (jk_x (by omega) (by omega)) ?_
  try rw [e1]
  try rw [e2]
  try rw [e3]
  try rw [e4]
  try rw [e5]
  refine sg_aload_n (pc := 1141) (j := 3) dL_law_1141 rfl rfl ?_
  refine st_cS3 (pc := 1142) (d' := d - 1) (mc' := 8) (ms' := 48) g dL_law_1142 cb_L_kinds cw_L_kinds ml_L_271 ms_L_kinds (Nat.le_of_ble_eq_true rfl) (by first | exact jl_d0 hd rfl | omega) (by first | exact Nat.le_of_ble_eq_true rfl | omega) (by first | exact Nat.le_of_ble_eq_true rfl | omega) ?_
  refine s_L_kinds g nc (by omega) jJ.1 (fun v1 h1 I1 X1 F1 k1 o1 => sg_K1 ?_)
  refine sg_istore (pc := 1145) dL_law_1145 (by decide) ?_
  refine sg_aload_n (pc := 1147) (j := 2) dL_law_1147 rfl rfl ?_
  refine sg_aload_n (pc := 1148) (j := 0) dL_law_1148 rfl rfl ?_
  refine sg_iload (pc := 1149) dL_law_1149 rfl ?_
  refine sg_iconst (pc := 1151) (z := 1) dL_law_1151 (by decide) ?_
  first | refine sg_iaddB (pc := 1152) dL_law_1152 (by omega) (by omega) ?_ | refine sg_iadd (pc := 1152) dL_law_1152 ?_
  refine sg_iald (pc := 1153) dL_law_1153 I1.2.2.2.2.2.2.2.2.2 rfl (by omega) (jk_x (by omega) (by omega)) ?_
  try rw [e1]
  try rw [e2]
  try rw [e3]
  try rw [e4]
  try rw [e5]
  refine st_as (fun H r => jk_tgR (B := B) r) ?_
  have m2 := jk_Im I1
  have ab0 := jk_Jt jJ I1 X1
  refine sg_cE1 (pc := 1154) (d' := d - 1) (mc' := 0) (ms' := 0) 8 g dL_law_1154 cb_X7_kinds ml_L_273 mn_X7_kinds rfl mv_X7_kinds (Nat.le_of_ble_eq_true rfl) (md_oc m2) (Nat.le_of_ble_eq_true rfl) (by first | exact jl_d0 hd rfl | omega) (by first | exact Nat.le_of_ble_eq_true rfl | omega) (by first | exact Nat.le_of_ble_eq_true rfl | omega) ?_
  refine s_X7_kinds g (by first | exact jl_d1 hd rfl | omega) m2 (fun v2 h2 c2_0 c2_1 y2 => sg_K1 ?_)
  refine st_as (fun H r => jk_unR I1.1 r) ?_
  have J2 : jk_J w B M O S xs (jk_unt B h2) A := jk_JM I1 (md_YW y2) (cf_XF jJ.2.1 F1) (y2.2.2.trans ab0) jJ.2.2.2
  have y2 := md_YW y2
  have I2 := J2.1
  refine sg_istore (pc := 1157) dL_law_1157 (by decide) ?_
  refine sg_goto (pc := 1159) (tgt := 2465) dL_law_1159 (by decide) ?_
  refine sg_lsub (lv' := [(0, _), (1, _), (2, _), (3, _), (4, _)]) ⟨rfl, rfl, rfl, rfl, rfl, trivial⟩ ?_
  exact K _ _ _ _ J2 (by omega) (by omega)

set_option maxRecDepth 100000 in
set_option maxHeartbeats 1000000 in
theorem lw_c24 {w : sg_W} {Q : sg_O → sg_H → Prop} {h : sg_H} (g : sg_G w) (nc : jk_C w) (hJ : jz w) {d mc ms : Nat} (hd : 30 ≤ d) {B M O S j k n : Nat} {xs : List Int} {A : fa_A} (jJ : jk_J w B M O S xs h A) (hj : 6 * j + 6 ≤ xs.length) (hl : xs.length ≤ 3072) (hk : k + 1030 ≤ mc) (hn : n + (48 + 0) ≤ ms) (K : ∀ (h' : sg_H) (k' n' : Nat) (A' : fa_A), jk_J w B M O S xs h' A' → k' ≤ k + 1030 → n' ≤ n + (48 + 0) → sg_R w mi_L_law d mc ms Q 2465 [(0, sg_r S), (1, sg_r B), (2, sg_r M), (3, sg_r O), (4, sg_i (6 * (j : Int)))] [] h' k' n') : sg_R w mi_L_law d mc ms Q 1162 [(0, sg_r S), (1, sg_r B), (2, sg_r M), (3, sg_r O), (4, sg_i (6 * (j : Int)))] [] h k n := by
  obtain ⟨p1, e1⟩ : ∃ p, xs.getD (6 * (j : Int) + 1).toNat 0 = p := ⟨_, rfl⟩
  obtain ⟨p2, e2⟩ : ∃ p, xs.getD (6 * (j : Int) + 2).toNat 0 = p := ⟨_, rfl⟩
  obtain ⟨p3, e3⟩ : ∃ p, xs.getD (6 * (j : Int) + 3).toNat 0 = p := ⟨_, rfl⟩
  obtain ⟨p4, e4⟩ : ∃ p, xs.getD (6 * (j : Int) + 4).toNat 0 = p := ⟨_, rfl⟩
  obtain ⟨p5, e5⟩ : ∃ p, xs.getD (6 * (j : Int) + 5).toNat 0 = p := ⟨_, rfl⟩
  refine sg_aload_n (pc := 1162) (j := 1) dL_law_1162 rfl rfl ?_
  refine sg_aload_n (pc := 1163) (j := 0) dL_law_1163 rfl rfl ?_
  refine sg_iload (pc := 1164) dL_law_1164 rfl ?_
  refine sg_iconst (pc := 1166) (z := 1) dL_law_1166 (by decide) ?_
  first | refine sg_iaddB (pc := 1167) dL_law_1167 (by omega) (by omega) ?_ | refine sg_iadd (pc := 1167) dL_law_1167 ?_
  refine sg_iald (pc := 1168) dL_law_1168 jJ.1.2.2.2.2.2.2.2.2.2 rfl (by omega) (jk_x (by omega) (by omega)) ?_
  try rw [e1]
  try rw [e2]
  try rw [e3]
  try rw [e4]
  try rw [e5]
  refine sg_aload_n (pc := 1169) (j := 0) dL_law_1169 rfl rfl ?_
  refine sg_iload (pc := 1170) dL_law_1170 rfl ?_
  refine sg_iconst (pc := 1172) (z := 2) dL_law_1172 (by decide) ?_
  first | refine sg_iaddB (pc := 1173) dL_law_1173 (by omega) (by omega) ?_ | refine sg_iadd (pc := 1173) dL_law_1173 ?_
  refine sg_iald (pc := 1174) dL_law_1174 jJ.1.2.2.2.2.2.2.2.2.2 rfl (by omega) (jk_x (by omega) (by omega)) ?_
  try rw [e1]
  try rw [e2]
  try rw [e3]
  try rw [e4]
  try rw [e5]
  refine sg_if_eq (pc := 1175) (tgt := 1182) dL_law_1175 (by decide) (fun c1175 => ?_) (fun c1175 => ?_)
  · refine sg_iconst (pc := 1182) (z := 0) dL_law_1182 (by decide) ?_
    refine sg_aload_n (pc := 1183) (j := 3) dL_law_1183 rfl rfl ?_
    refine st_cS4 (pc := 1184) (d' := d - 1) (mc' := 8) (ms' := 48) g dL_law_1184 cb_L_upper cw_L_upper ml_L_274 ms_L_upper (Nat.le_of_ble_eq_true rfl) (by first | exact jl_d0 hd rfl | omega) (by first | exact Nat.le_of_ble_eq_true rfl | omega) (by first | exact Nat.le_of_ble_eq_true rfl | omega) ?_
    refine s_L_upper g nc (by omega) jJ.1 (fun v1 h1 I1 X1 F1 k1 o1 => sg_K1 ?_)
    refine sg_istore (pc := 1187) dL_law_1187 (by decide) ?_
    refine sg_aload_n (pc := 1189) (j := 2) dL_law_1189 rfl rfl ?_
    refine sg_aload_n (pc := 1190) (j := 0) dL_law_1190 rfl rfl ?_
    refine sg_iload (pc := 1191) dL_law_1191 rfl ?_
    refine sg_iconst (pc := 1193) (z := 1) dL_law_1193 (by decide) ?_
    first | refine sg_iaddB (pc := 1194) dL_law_1194 (by omega) (by omega) ?_ | refine sg_iadd (pc := 1194) dL_law_1194 ?_
    refine sg_iald (pc := 1195) dL_law_1195 I1.2.2.2.2.2.2.2.2.2 rfl (by omega) (jk_x (by omega) (by omega)) ?_
    try rw [e1]
    try rw [e2]
    try rw [e3]
    try rw [e4]
    try rw [e5]
    refine sg_aload_n (pc := 1196) (j := 0) dL_law_1196 rfl rfl ?_
    refine sg_iload (pc := 1197) dL_law_1197 rfl ?_
    refine sg_iconst (pc := 1199) (z := 2) dL_law_1199 (by decide) ?_
    first | refine sg_iaddB (pc := 1200) dL_law_1200 (by omega) (by omega) ?_ | refine sg_iadd (pc := 1200) dL_law_1200 ?_
    refine sg_iald (pc := 1201) dL_law_1201 I1.2.2.2.2.2.2.2.2.2 rfl (by omega) (jk_x (by omega) (by omega)) ?_
    try rw [e1]
    try rw [e2]
    try rw [e3]
    try rw [e4]
    try rw [e5]
    refine sg_if_eq (pc := 1202) (tgt := 1209) dL_law_1202 (by decide) (fun c1202 => ?_) (fun c1202 => absurd c1175 c1202)
    refine sg_iconst (pc := 1209) (z := 0) dL_law_1209 (by decide) ?_
    refine st_as (fun H r => jk_tgR (B := B) r) ?_
    have m2 := jk_Im I1
    have ab0 := jk_Jt jJ I1 X1
    refine sg_cE2 (pc := 1210) (d' := d - 1) (mc' := 0) (ms' := 0) 8 g dL_law_1210 cb_X7_upper ml_L_277 mn_X7_upper rfl mv_X7_upper (Nat.le_of_ble_eq_true rfl) (md_oc m2) (Nat.le_of_ble_eq_true rfl) (by first | exact jl_d0 hd rfl | omega) (by first | exact Nat.le_of_ble_eq_true rfl | omega) (by first | exact Nat.le_of_ble_eq_true rfl | omega) ?_
    refine s_X7_upper g (by first | exact jl_d1 hd rfl | omega) m2 (fun v2 h2 c2_0 c2_1 y2 => sg_K1 ?_)
    refine st_as (fun H r => jk_unR I1.1 r) ?_
    have J2 : jk_J w B M O S xs (jk_unt B h2) A := jk_JM I1 (md_YW y2) (cf_XF jJ.2.1 F1) (y2.2.2.trans ab0) jJ.2.2.2
    have y2 := md_YW y2
    have I2 := J2.1
    refine sg_istore (pc := 1213) dL_law_1213 (by decide) ?_
    refine sg_goto (pc := 1215) (tgt := 2465) dL_law_1215 (by decide) ?_
    refine sg_lsub (lv' := [(0, _), (1, _), (2, _), (3, _), (4, _)]) ⟨rfl, rfl, rfl, rfl, rfl, trivial⟩ ?_
    exact K _ _ _ _ J2 (by omega) (by omega)
  · refine sg_iconst (pc := 1178) (z := 1) dL_law_1178 (by decide) ?_
    refine sg_goto (pc := 1179) (tgt := 1183) dL_law_1179 (by decide) ?_
    refine sg_aload_n (pc := 1183) (j := 3) dL_law_1183 rfl rfl ?_
    refine st_cS4 (pc := 1184) (d' := d - 1) (mc' := 8) (ms' := 48) g dL_law_1184 cb_L_upper cw_L_upper ml_L_274 ms_L_upper (Nat.le_of_ble_eq_true rfl) (by first | exact jl_d0 hd rfl | omega) (by first | exact Nat.le_of_ble_eq_true rfl | omega) (by first | exact Nat.le_of_ble_eq_true rfl | omega) ?_
    refine s_L_upper g nc (by omega) jJ.1 (fun v1 h1 I1 X1 F1 k1 o1 => sg_K1 ?_)
    refine sg_istore (pc := 1187) dL_law_1187 (by decide) ?_
    refine sg_aload_n (pc := 1189) (j := 2) dL_law_1189 rfl rfl ?_
    refine sg_aload_n (pc := 1190) (j := 0) dL_law_1190 rfl rfl ?_
    refine sg_iload (pc := 1191) dL_law_1191 rfl ?_
    refine sg_iconst (pc := 1193) (z := 1) dL_law_1193 (by decide) ?_
    first | refine sg_iaddB (pc := 1194) dL_law_1194 (by omega) (by omega) ?_ | refine sg_iadd (pc := 1194) dL_law_1194 ?_
    refine sg_iald (pc := 1195) dL_law_1195 I1.2.2.2.2.2.2.2.2.2 rfl (by omega) (jk_x (by omega) (by omega)) ?_
    try rw [e1]
    try rw [e2]
    try rw [e3]
    try rw [e4]
    try rw [e5]
    refine sg_aload_n (pc := 1196) (j := 0) dL_law_1196 rfl rfl ?_
    refine sg_iload (pc := 1197) dL_law_1197 rfl ?_
    refine sg_iconst (pc := 1199) (z := 2) dL_law_1199 (by decide) ?_
    first | refine sg_iaddB (pc := 1200) dL_law_1200 (by omega) (by omega) ?_ | refine sg_iadd (pc := 1200) dL_law_1200 ?_
    refine sg_iald (pc := 1201) dL_law_1201 I1.2.2.2.2.2.2.2.2.2 rfl (by omega) (jk_x (by omega) (by omega)) ?_
    try rw [e1]
    try rw [e2]
    try rw [e3]
    try rw [e4]
    try rw [e5]
    refine sg_if_eq (pc := 1202) (tgt := 1209) dL_law_1202 (by decide) (fun c1202 => absurd c1202 c1175) (fun c1202 => ?_)
    refine sg_iconst (pc := 1205) (z := 1) dL_law_1205 (by decide) ?_
    refine sg_goto (pc := 1206) (tgt := 1210) dL_law_1206 (by decide) ?_
    refine st_as (fun H r => jk_tgR (B := B) r) ?_
    have m2 := jk_Im I1
    have ab0 := jk_Jt jJ I1 X1
    refine sg_cE2 (pc := 1210) (d' := d - 1) (mc' := 0) (ms' := 0) 8 g dL_law_1210 cb_X7_upper ml_L_277 mn_X7_upper rfl mv_X7_upper (Nat.le_of_ble_eq_true rfl) (md_oc m2) (Nat.le_of_ble_eq_true rfl) (by first | exact jl_d0 hd rfl | omega) (by first | exact Nat.le_of_ble_eq_true rfl | omega) (by first | exact Nat.le_of_ble_eq_true rfl | omega) ?_
    refine s_X7_upper g (by first | exact jl_d1 hd rfl | omega) m2 (fun v2 h2 c2_0 c2_1 y2 => sg_K1 ?_)
    refine st_as (fun H r => jk_unR I1.1 r) ?_
    have J2 : jk_J w B M O S xs (jk_unt B h2) A := jk_JM I1 (md_YW y2) (cf_XF jJ.2.1 F1) (y2.2.2.trans ab0) jJ.2.2.2
    have y2 := md_YW y2
    have I2 := J2.1
    refine sg_istore (pc := 1213) dL_law_1213 (by decide) ?_
    refine sg_goto (pc := 1215) (tgt := 2465) dL_law_1215 (by decide) ?_
    refine sg_lsub (lv' := [(0, _), (1, _), (2, _), (3, _), (4, _)]) ⟨rfl, rfl, rfl, rfl, rfl, trivial⟩ ?_
    exact K _ _ _ _ J2 (by omega) (by omega)

set_option maxRecDepth 100000 in
set_option maxHeartbeats 1000000 in
theorem lw_c25 {w : sg_W} {Q : sg_O → sg_H → Prop} {h : sg_H} (g : sg_G w) (nc : jk_C w) (hJ : jz w) {d mc ms : Nat} (hd : 30 ≤ d) {B M O S j k n : Nat} {xs : List Int} {A : fa_A} (jJ : jk_J w B M O S xs h A) (hj : 6 * j + 6 ≤ xs.length) (hl : xs.length ≤ 3072) (hk : k + 1030 ≤ mc) (hn : n + (48 + 0) ≤ ms) (K : ∀ (h' : sg_H) (k' n' : Nat) (A' : fa_A), jk_J w B M O S xs h' A' → k' ≤ k + 1030 → n' ≤ n + (48 + 0) → sg_R w mi_L_law d mc ms Q 2465 [(0, sg_r S), (1, sg_r B), (2, sg_r M), (3, sg_r O), (4, sg_i (6 * (j : Int)))] [] h' k' n') : sg_R w mi_L_law d mc ms Q 1218 [(0, sg_r S), (1, sg_r B), (2, sg_r M), (3, sg_r O), (4, sg_i (6 * (j : Int)))] [] h k n := by
  obtain ⟨p1, e1⟩ : ∃ p, xs.getD (6 * (j : Int) + 1).toNat 0 = p := ⟨_, rfl⟩
  obtain ⟨p2, e2⟩ : ∃ p, xs.getD (6 * (j : Int) + 2).toNat 0 = p := ⟨_, rfl⟩
  obtain ⟨p3, e3⟩ : ∃ p, xs.getD (6 * (j : Int) + 3).toNat 0 = p := ⟨_, rfl⟩
  obtain ⟨p4, e4⟩ : ∃ p, xs.getD (6 * (j : Int) + 4).toNat 0 = p := ⟨_, rfl⟩
  obtain ⟨p5, e5⟩ : ∃ p, xs.getD (6 * (j : Int) + 5).toNat 0 = p := ⟨_, rfl⟩
  refine sg_aload_n (pc := 1218) (j := 1) dL_law_1218 rfl rfl ?_
  refine sg_aload_n (pc := 1219) (j := 0) dL_law_1219 rfl rfl ?_
  refine sg_iload (pc := 1220) dL_law_1220 rfl ?_
  refine sg_iconst (pc := 1222) (z := 1) dL_law_1222 (by decide) ?_
  first | refine sg_iaddB (pc := 1223) dL_law_1223 (by omega) (by omega) ?_ | refine sg_iadd (pc := 1223) dL_law_1223 ?_
  refine sg_iald (pc := 1224) dL_law_1224 jJ.1.2.2.2.2.2.2.2.2.2 rfl (by omega) (jk_x (by omega) (by omega)) ?_
  try rw [e1]
  try rw [e2]
  try rw [e3]
  try rw [e4]
  try rw [e5]
  refine sg_aload_n (pc := 1225) (j := 0) dL_law_1225 rfl rfl ?_
  refine sg_iload (pc := 1226) dL_law_1226 rfl ?_
  refine sg_iconst (pc := 1228) (z := 2) dL_law_1228 (by decide) ?_
  first | refine sg_iaddB (pc := 1229) dL_law_1229 (by omega) (by omega) ?_ | refine sg_iadd (pc := 1229) dL_law_1229 ?_
  refine sg_iald (pc := 1230) dL_law_1230 jJ.1.2.2.2.2.2.2.2.2.2 rfl (by omega) (jk_x (by omega) (by omega)) ?_
  try rw [e1]
  try rw [e2]
  try rw [e3]
  try rw [e4]
  try rw [e5]
  refine sg_if_eq (pc := 1231) (tgt := 1238) dL_law_1231 (by decide) (fun c1231 => ?_) (fun c1231 => ?_)
  · refine sg_iconst (pc := 1238) (z := 0) dL_law_1238 (by decide) ?_
    refine sg_aload_n (pc := 1239) (j := 3) dL_law_1239 rfl rfl ?_
    refine st_cS4 (pc := 1240) (d' := d - 1) (mc' := 8) (ms' := 48) g dL_law_1240 cb_L_lower cw_L_lower ml_L_278 ms_L_lower (Nat.le_of_ble_eq_true rfl) (by first | exact jl_d0 hd rfl | omega) (by first | exact Nat.le_of_ble_eq_true rfl | omega) (by first | exact Nat.le_of_ble_eq_true rfl | omega) ?_
    refine s_L_lower g nc (by omega) jJ.1 (fun v1 h1 I1 X1 F1 k1 o1 => sg_K1 ?_)
    refine sg_istore (pc := 1243) dL_law_1243 (by decide) ?_
    refine sg_aload_n (pc := 1245) (j := 2) dL_law_1245 rfl rfl ?_
    refine sg_aload_n (pc := 1246) (j := 0) dL_law_1246 rfl rfl ?_
    refine sg_iload (pc := 1247) dL_law_1247 rfl ?_
    refine sg_iconst (pc := 1249) (z := 1) dL_law_1249 (by decide) ?_
    first | refine sg_iaddB (pc := 1250) dL_law_1250 (by omega) (by omega) ?_ | refine sg_iadd (pc := 1250) dL_law_1250 ?_
    refine sg_iald (pc := 1251) dL_law_1251 I1.2.2.2.2.2.2.2.2.2 rfl (by omega) (jk_x (by omega) (by omega)) ?_
    try rw [e1]
    try rw [e2]
    try rw [e3]
    try rw [e4]
    try rw [e5]
    refine sg_aload_n (pc := 1252) (j := 0) dL_law_1252 rfl rfl ?_
    refine sg_iload (pc := 1253) dL_law_1253 rfl ?_
    refine sg_iconst (pc := 1255) (z := 2) dL_law_1255 (by decide) ?_
    first | refine sg_iaddB (pc := 1256) dL_law_1256 (by omega) (by omega) ?_ | refine sg_iadd (pc := 1256) dL_law_1256 ?_
    refine sg_iald (pc := 1257) dL_law_1257 I1.2.2.2.2.2.2.2.2.2 rfl (by omega) (jk_x (by omega) (by omega)) ?_
    try rw [e1]
    try rw [e2]
    try rw [e3]
    try rw [e4]
    try rw [e5]
    refine sg_if_eq (pc := 1258) (tgt := 1265) dL_law_1258 (by decide) (fun c1258 => ?_) (fun c1258 => absurd c1231 c1258)
    refine sg_iconst (pc := 1265) (z := 0) dL_law_1265 (by decide) ?_
    refine st_as (fun H r => jk_tgR (B := B) r) ?_
    have m2 := jk_Im I1
    have ab0 := jk_Jt jJ I1 X1
    refine sg_cE2 (pc := 1266) (d' := d - 1) (mc' := 0) (ms' := 0) 8 g dL_law_1266 cb_X7_lower ml_L_280 mn_X7_lower rfl mv_X7_lower (Nat.le_of_ble_eq_true rfl) (md_oc m2) (Nat.le_of_ble_eq_true rfl) (by first | exact jl_d0 hd rfl | omega) (by first | exact Nat.le_of_ble_eq_true rfl | omega) (by first | exact Nat.le_of_ble_eq_true rfl | omega) ?_
    refine s_X7_lower g (by first | exact jl_d1 hd rfl | omega) m2 (fun v2 h2 c2_0 c2_1 y2 => sg_K1 ?_)
    refine st_as (fun H r => jk_unR I1.1 r) ?_
    have J2 : jk_J w B M O S xs (jk_unt B h2) A := jk_JM I1 (md_YW y2) (cf_XF jJ.2.1 F1) (y2.2.2.trans ab0) jJ.2.2.2
    have y2 := md_YW y2
    have I2 := J2.1
    refine sg_istore (pc := 1269) dL_law_1269 (by decide) ?_
    refine sg_goto (pc := 1271) (tgt := 2465) dL_law_1271 (by decide) ?_
    refine sg_lsub (lv' := [(0, _), (1, _), (2, _), (3, _), (4, _)]) ⟨rfl, rfl, rfl, rfl, rfl, trivial⟩ ?_
    exact K _ _ _ _ J2 (by omega) (by omega)
  · refine sg_iconst (pc := 1234) (z := 1) dL_law_1234 (by decide) ?_
    refine sg_goto (pc := 1235) (tgt := 1239) dL_law_1235 (by decide) ?_
    refine sg_aload_n (pc := 1239) (j := 3) dL_law_1239 rfl rfl ?_
    refine st_cS4 (pc := 1240) (d' := d - 1) (mc' := 8) (ms' := 48) g dL_law_1240 cb_L_lower cw_L_lower ml_L_278 ms_L_lower (Nat.le_of_ble_eq_true rfl) (by first | exact jl_d0 hd rfl | omega) (by first | exact Nat.le_of_ble_eq_true rfl | omega) (by first | exact Nat.le_of_ble_eq_true rfl | omega) ?_
    refine s_L_lower g nc (by omega) jJ.1 (fun v1 h1 I1 X1 F1 k1 o1 => sg_K1 ?_)
    refine sg_istore (pc := 1243) dL_law_1243 (by decide) ?_
    refine sg_aload_n (pc := 1245) (j := 2) dL_law_1245 rfl rfl ?_
    refine sg_aload_n (pc := 1246) (j := 0) dL_law_1246 rfl rfl ?_
    refine sg_iload (pc := 1247) dL_law_1247 rfl ?_
    refine sg_iconst (pc := 1249) (z := 1) dL_law_1249 (by decide) ?_
    first | refine sg_iaddB (pc := 1250) dL_law_1250 (by omega) (by omega) ?_ | refine sg_iadd (pc := 1250) dL_law_1250 ?_
    refine sg_iald (pc := 1251) dL_law_1251 I1.2.2.2.2.2.2.2.2.2 rfl (by omega) (jk_x (by omega) (by omega)) ?_
    try rw [e1]
    try rw [e2]
    try rw [e3]
    try rw [e4]
    try rw [e5]
    refine sg_aload_n (pc := 1252) (j := 0) dL_law_1252 rfl rfl ?_
    refine sg_iload (pc := 1253) dL_law_1253 rfl ?_
    refine sg_iconst (pc := 1255) (z := 2) dL_law_1255 (by decide) ?_
    first | refine sg_iaddB (pc := 1256) dL_law_1256 (by omega) (by omega) ?_ | refine sg_iadd (pc := 1256) dL_law_1256 ?_
    refine sg_iald (pc := 1257) dL_law_1257 I1.2.2.2.2.2.2.2.2.2 rfl (by omega) (jk_x (by omega) (by omega)) ?_
    try rw [e1]
    try rw [e2]
    try rw [e3]
    try rw [e4]
    try rw [e5]
    refine sg_if_eq (pc := 1258) (tgt := 1265) dL_law_1258 (by decide) (fun c1258 => absurd c1258 c1231) (fun c1258 => ?_)
    refine sg_iconst (pc := 1261) (z := 1) dL_law_1261 (by decide) ?_
    refine sg_goto (pc := 1262) (tgt := 1266) dL_law_1262 (by decide) ?_
    refine st_as (fun H r => jk_tgR (B := B) r) ?_
    have m2 := jk_Im I1
    have ab0 := jk_Jt jJ I1 X1
    refine sg_cE2 (pc := 1266) (d' := d - 1) (mc' := 0) (ms' := 0) 8 g dL_law_1266 cb_X7_lower ml_L_280 mn_X7_lower rfl mv_X7_lower (Nat.le_of_ble_eq_true rfl) (md_oc m2) (Nat.le_of_ble_eq_true rfl) (by first | exact jl_d0 hd rfl | omega) (by first | exact Nat.le_of_ble_eq_true rfl | omega) (by first | exact Nat.le_of_ble_eq_true rfl | omega) ?_
    refine s_X7_lower g (by first | exact jl_d1 hd rfl | omega) m2 (fun v2 h2 c2_0 c2_1 y2 => sg_K1 ?_)
    refine st_as (fun H r => jk_unR I1.1 r) ?_
    have J2 : jk_J w B M O S xs (jk_unt B h2) A := jk_JM I1 (md_YW y2) (cf_XF jJ.2.1 F1) (y2.2.2.trans ab0) jJ.2.2.2
    have y2 := md_YW y2
    have I2 := J2.1
    refine sg_istore (pc := 1269) dL_law_1269 (by decide) ?_
    refine sg_goto (pc := 1271) (tgt := 2465) dL_law_1271 (by decide) ?_
    refine sg_lsub (lv' := [(0, _), (1, _), (2, _), (3, _), (4, _)]) ⟨rfl, rfl, rfl, rfl, rfl, trivial⟩ ?_
    exact K _ _ _ _ J2 (by omega) (by omega)

set_option maxRecDepth 100000 in
set_option maxHeartbeats 1000000 in
theorem lw_c26 {w : sg_W} {Q : sg_O → sg_H → Prop} {h : sg_H} (g : sg_G w) (nc : jk_C w) (hJ : jz w) {d mc ms : Nat} (hd : 30 ≤ d) {B M O S j k n : Nat} {xs : List Int} {A : fa_A} (jJ : jk_J w B M O S xs h A) (hj : 6 * j + 6 ≤ xs.length) (hl : xs.length ≤ 3072) (hk : k + 1030 ≤ mc) (hn : n + (48 + 0) ≤ ms) (K : ∀ (h' : sg_H) (k' n' : Nat) (A' : fa_A), jk_J w B M O S xs h' A' → k' ≤ k + 1030 → n' ≤ n + (48 + 0) → sg_R w mi_L_law d mc ms Q 2465 [(0, sg_r S), (1, sg_r B), (2, sg_r M), (3, sg_r O), (4, sg_i (6 * (j : Int)))] [] h' k' n') : sg_R w mi_L_law d mc ms Q 1274 [(0, sg_r S), (1, sg_r B), (2, sg_r M), (3, sg_r O), (4, sg_i (6 * (j : Int)))] [] h k n := by
  obtain ⟨p1, e1⟩ : ∃ p, xs.getD (6 * (j : Int) + 1).toNat 0 = p := ⟨_, rfl⟩
  obtain ⟨p2, e2⟩ : ∃ p, xs.getD (6 * (j : Int) + 2).toNat 0 = p := ⟨_, rfl⟩
  obtain ⟨p3, e3⟩ : ∃ p, xs.getD (6 * (j : Int) + 3).toNat 0 = p := ⟨_, rfl⟩
  obtain ⟨p4, e4⟩ : ∃ p, xs.getD (6 * (j : Int) + 4).toNat 0 = p := ⟨_, rfl⟩
  obtain ⟨p5, e5⟩ : ∃ p, xs.getD (6 * (j : Int) + 5).toNat 0 = p := ⟨_, rfl⟩
  refine sg_aload_n (pc := 1274) (j := 1) dL_law_1274 rfl rfl ?_
  refine sg_aload_n (pc := 1275) (j := 0) dL_law_1275 rfl rfl ?_
  refine sg_iload (pc := 1276) dL_law_1276 rfl ?_
  refine sg_iconst (pc := 1278) (z := 1) dL_law_1278 (by decide) ?_
  first | refine sg_iaddB (pc := 1279) dL_law_1279 (by omega) (by omega) ?_ | refine sg_iadd (pc := 1279) dL_law_1279 ?_
  refine sg_iald (pc := 1280) dL_law_1280 jJ.1.2.2.2.2.2.2.2.2.2 rfl (by omega) (jk_x (by omega) (by omega)) ?_
  try rw [e1]
  try rw [e2]
  try rw [e3]
  try rw [e4]
  try rw [e5]
  refine sg_aload_n (pc := 1281) (j := 0) dL_law_1281 rfl rfl ?_
  refine sg_iload (pc := 1282) dL_law_1282 rfl ?_
  refine sg_iconst (pc := 1284) (z := 2) dL_law_1284 (by decide) ?_
  first | refine sg_iaddB (pc := 1285) dL_law_1285 (by omega) (by omega) ?_ | refine sg_iadd (pc := 1285) dL_law_1285 ?_
  refine sg_iald (pc := 1286) dL_law_1286 jJ.1.2.2.2.2.2.2.2.2.2 rfl (by omega) (jk_x (by omega) (by omega)) ?_
  try rw [e1]
  try rw [e2]
  try rw [e3]
  try rw [e4]
  try rw [e5]
  refine sg_if_eq (pc := 1287) (tgt := 1294) dL_law_1287 (by decide) (fun c1287 => ?_) (fun c1287 => ?_)
  · refine sg_iconst (pc := 1294) (z := 0) dL_law_1294 (by decide) ?_
    refine sg_aload_n (pc := 1295) (j := 3) dL_law_1295 rfl rfl ?_
    refine st_cS4 (pc := 1296) (d' := d - 1) (mc' := 8) (ms' := 48) g dL_law_1296 cb_L_value cw_L_value ml_L_281 ms_L_value (Nat.le_of_ble_eq_true rfl) (by first | exact jl_d0 hd rfl | omega) (by first | exact Nat.le_of_ble_eq_true rfl | omega) (by first | exact Nat.le_of_ble_eq_true rfl | omega) ?_
    refine s_L_value g nc (by omega) jJ.1 (fun v1 h1 I1 X1 F1 k1 o1 => sg_K1 ?_)
    refine sg_istore (pc := 1299) dL_law_1299 (by decide) ?_
    refine sg_aload_n (pc := 1301) (j := 2) dL_law_1301 rfl rfl ?_
    refine sg_aload_n (pc := 1302) (j := 0) dL_law_1302 rfl rfl ?_
    refine sg_iload (pc := 1303) dL_law_1303 rfl ?_
    refine sg_iconst (pc := 1305) (z := 1) dL_law_1305 (by decide) ?_
    first | refine sg_iaddB (pc := 1306) dL_law_1306 (by omega) (by omega) ?_ | refine sg_iadd (pc := 1306) dL_law_1306 ?_
    refine sg_iald (pc := 1307) dL_law_1307 I1.2.2.2.2.2.2.2.2.2 rfl (by omega) (jk_x (by omega) (by omega)) ?_
    try rw [e1]
    try rw [e2]
    try rw [e3]
    try rw [e4]
    try rw [e5]
    refine sg_aload_n (pc := 1308) (j := 0) dL_law_1308 rfl rfl ?_
    refine sg_iload (pc := 1309) dL_law_1309 rfl ?_
    refine sg_iconst (pc := 1311) (z := 2) dL_law_1311 (by decide) ?_
    first | refine sg_iaddB (pc := 1312) dL_law_1312 (by omega) (by omega) ?_ | refine sg_iadd (pc := 1312) dL_law_1312 ?_
    refine sg_iald (pc := 1313) dL_law_1313 I1.2.2.2.2.2.2.2.2.2 rfl (by omega) (jk_x (by omega) (by omega)) ?_
    try rw [e1]
    try rw [e2]
    try rw [e3]
    try rw [e4]
    try rw [e5]
    refine sg_if_eq (pc := 1314) (tgt := 1321) dL_law_1314 (by decide) (fun c1314 => ?_) (fun c1314 => absurd c1287 c1314)
    refine sg_iconst (pc := 1321) (z := 0) dL_law_1321 (by decide) ?_
    refine st_as (fun H r => jk_tgR (B := B) r) ?_
    have m2 := jk_Im I1
    have ab0 := jk_Jt jJ I1 X1
    refine sg_cE2 (pc := 1322) (d' := d - 1) (mc' := 0) (ms' := 0) 8 g dL_law_1322 cb_X7_value ml_L_283 mn_X7_value rfl mv_X7_value (Nat.le_of_ble_eq_true rfl) (md_oc m2) (Nat.le_of_ble_eq_true rfl) (by first | exact jl_d0 hd rfl | omega) (by first | exact Nat.le_of_ble_eq_true rfl | omega) (by first | exact Nat.le_of_ble_eq_true rfl | omega) ?_
    refine s_X7_value g (by first | exact jl_d1 hd rfl | omega) m2 (fun v2 h2 c2_0 c2_1 y2 => sg_K1 ?_)
    refine st_as (fun H r => jk_unR I1.1 r) ?_
    have J2 : jk_J w B M O S xs (jk_unt B h2) A := jk_JM I1 (md_YW y2) (cf_XF jJ.2.1 F1) (y2.2.2.trans ab0) jJ.2.2.2
    have y2 := md_YW y2
    have I2 := J2.1
    refine sg_istore (pc := 1325) dL_law_1325 (by decide) ?_
    refine sg_goto (pc := 1327) (tgt := 2465) dL_law_1327 (by decide) ?_
    refine sg_lsub (lv' := [(0, _), (1, _), (2, _), (3, _), (4, _)]) ⟨rfl, rfl, rfl, rfl, rfl, trivial⟩ ?_
    exact K _ _ _ _ J2 (by omega) (by omega)
  · refine sg_iconst (pc := 1290) (z := 1) dL_law_1290 (by decide) ?_
    refine sg_goto (pc := 1291) (tgt := 1295) dL_law_1291 (by decide) ?_
    refine sg_aload_n (pc := 1295) (j := 3) dL_law_1295 rfl rfl ?_
    refine st_cS4 (pc := 1296) (d' := d - 1) (mc' := 8) (ms' := 48) g dL_law_1296 cb_L_value cw_L_value ml_L_281 ms_L_value (Nat.le_of_ble_eq_true rfl) (by first | exact jl_d0 hd rfl | omega) (by first | exact Nat.le_of_ble_eq_true rfl | omega) (by first | exact Nat.le_of_ble_eq_true rfl | omega) ?_
    refine s_L_value g nc (by omega) jJ.1 (fun v1 h1 I1 X1 F1 k1 o1 => sg_K1 ?_)
    refine sg_istore (pc := 1299) dL_law_1299 (by decide) ?_
    refine sg_aload_n (pc := 1301) (j := 2) dL_law_1301 rfl rfl ?_
    refine sg_aload_n (pc := 1302) (j := 0) dL_law_1302 rfl rfl ?_
    refine sg_iload (pc := 1303) dL_law_1303 rfl ?_
    refine sg_iconst (pc := 1305) (z := 1) dL_law_1305 (by decide) ?_
    first | refine sg_iaddB (pc := 1306) dL_law_1306 (by omega) (by omega) ?_ | refine sg_iadd (pc := 1306) dL_law_1306 ?_
    refine sg_iald (pc := 1307) dL_law_1307 I1.2.2.2.2.2.2.2.2.2 rfl (by omega) (jk_x (by omega) (by omega)) ?_
    try rw [e1]
    try rw [e2]
    try rw [e3]
    try rw [e4]
    try rw [e5]
    refine sg_aload_n (pc := 1308) (j := 0) dL_law_1308 rfl rfl ?_
    refine sg_iload (pc := 1309) dL_law_1309 rfl ?_
    refine sg_iconst (pc := 1311) (z := 2) dL_law_1311 (by decide) ?_
    first | refine sg_iaddB (pc := 1312) dL_law_1312 (by omega) (by omega) ?_ | refine sg_iadd (pc := 1312) dL_law_1312 ?_
    refine sg_iald (pc := 1313) dL_law_1313 I1.2.2.2.2.2.2.2.2.2 rfl (by omega) (jk_x (by omega) (by omega)) ?_
    try rw [e1]
    try rw [e2]
    try rw [e3]
    try rw [e4]
    try rw [e5]
    refine sg_if_eq (pc := 1314) (tgt := 1321) dL_law_1314 (by decide) (fun c1314 => absurd c1314 c1287) (fun c1314 => ?_)
    refine sg_iconst (pc := 1317) (z := 1) dL_law_1317 (by decide) ?_
    refine sg_goto (pc := 1318) (tgt := 1322) dL_law_1318 (by decide) ?_
    refine st_as (fun H r => jk_tgR (B := B) r) ?_
    have m2 := jk_Im I1
    have ab0 := jk_Jt jJ I1 X1
    refine sg_cE2 (pc := 1322) (d' := d - 1) (mc' := 0) (ms' := 0) 8 g dL_law_1322 cb_X7_value ml_L_283 mn_X7_value rfl mv_X7_value (Nat.le_of_ble_eq_true rfl) (md_oc m2) (Nat.le_of_ble_eq_true rfl) (by first | exact jl_d0 hd rfl | omega) (by first | exact Nat.le_of_ble_eq_true rfl | omega) (by first | exact Nat.le_of_ble_eq_true rfl | omega) ?_
    refine s_X7_value g (by first | exact jl_d1 hd rfl | omega) m2 (fun v2 h2 c2_0 c2_1 y2 => sg_K1 ?_)
    refine st_as (fun H r => jk_unR I1.1 r) ?_
    have J2 : jk_J w B M O S xs (jk_unt B h2) A := jk_JM I1 (md_YW y2) (cf_XF jJ.2.1 F1) (y2.2.2.trans ab0) jJ.2.2.2
    have y2 := md_YW y2
    have I2 := J2.1
    refine sg_istore (pc := 1325) dL_law_1325 (by decide) ?_
    refine sg_goto (pc := 1327) (tgt := 2465) dL_law_1327 (by decide) ?_
    refine sg_lsub (lv' := [(0, _), (1, _), (2, _), (3, _), (4, _)]) ⟨rfl, rfl, rfl, rfl, rfl, trivial⟩ ?_
    exact K _ _ _ _ J2 (by omega) (by omega)

set_option maxRecDepth 100000 in
set_option maxHeartbeats 1000000 in
theorem lw_c27 {w : sg_W} {Q : sg_O → sg_H → Prop} {h : sg_H} (g : sg_G w) (nc : jk_C w) (hJ : jz w) {d mc ms : Nat} (hd : 30 ≤ d) {B M O S j k n : Nat} {xs : List Int} {A : fa_A} (jJ : jk_J w B M O S xs h A) (hj : 6 * j + 6 ≤ xs.length) (hl : xs.length ≤ 3072) (hk : k + 1030 ≤ mc) (hn : n + (48 + 0) ≤ ms) (K : ∀ (h' : sg_H) (k' n' : Nat) (A' : fa_A), jk_J w B M O S xs h' A' → k' ≤ k + 1030 → n' ≤ n + (48 + 0) → sg_R w mi_L_law d mc ms Q 2465 [(0, sg_r S), (1, sg_r B), (2, sg_r M), (3, sg_r O), (4, sg_i (6 * (j : Int)))] [] h' k' n') : sg_R w mi_L_law d mc ms Q 1330 [(0, sg_r S), (1, sg_r B), (2, sg_r M), (3, sg_r O), (4, sg_i (6 * (j : Int)))] [] h k n := by
  obtain ⟨p1, e1⟩ : ∃ p, xs.getD (6 * (j : Int) + 1).toNat 0 = p := ⟨_, rfl⟩
  obtain ⟨p2, e2⟩ : ∃ p, xs.getD (6 * (j : Int) + 2).toNat 0 = p := ⟨_, rfl⟩
  obtain ⟨p3, e3⟩ : ∃ p, xs.getD (6 * (j : Int) + 3).toNat 0 = p := ⟨_, rfl⟩
  obtain ⟨p4, e4⟩ : ∃ p, xs.getD (6 * (j : Int) + 4).toNat 0 = p := ⟨_, rfl⟩
  obtain ⟨p5, e5⟩ : ∃ p, xs.getD (6 * (j : Int) + 5).toNat 0 = p := ⟨_, rfl⟩
  refine sg_aload_n (pc := 1330) (j := 1) dL_law_1330 rfl rfl ?_
  refine sg_aload_n (pc := 1331) (j := 0) dL_law_1331 rfl rfl ?_
  refine sg_iload (pc := 1332) dL_law_1332 rfl ?_
  refine sg_iconst (pc := 1334) (z := 1) dL_law_1334 (by decide) ?_
  first | refine sg_iaddB (pc := 1335) dL_law_1335 (by omega) (by omega) ?_ | refine sg_iadd (pc := 1335) dL_law_1335 ?_
  refine sg_iald (pc := 1336) dL_law_1336 jJ.1.2.2.2.2.2.2.2.2.2 rfl (by omega) (jk_x (by omega) (by omega)) ?_
  try rw [e1]
  try rw [e2]
  try rw [e3]
  try rw [e4]
  try rw [e5]
  refine sg_aload_n (pc := 1337) (j := 0) dL_law_1337 rfl rfl ?_
  refine sg_iload (pc := 1338) dL_law_1338 rfl ?_
  refine sg_iconst (pc := 1340) (z := 2) dL_law_1340 (by decide) ?_
  first | refine sg_iaddB (pc := 1341) dL_law_1341 (by omega) (by omega) ?_ | refine sg_iadd (pc := 1341) dL_law_1341 ?_
  refine sg_iald (pc := 1342) dL_law_1342 jJ.1.2.2.2.2.2.2.2.2.2 rfl (by omega) (jk_x (by omega) (by omega)) ?_
  try rw [e1]
  try rw [e2]
  try rw [e3]
  try rw [e4]
  try rw [e5]
  refine sg_aload_n (pc := 1343) (j := 0) dL_law_1343 rfl rfl ?_
  refine sg_iload (pc := 1344) dL_law_1344 rfl ?_
  refine sg_iconst (pc := 1346) (z := 3) dL_law_1346 (by decide) ?_
  first | refine sg_iaddB (pc := 1347) dL_law_1347 (by omega) (by omega) ?_ | refine sg_iadd (pc := 1347) dL_law_1347 ?_
  refine sg_iald (pc := 1348) dL_law_1348 jJ.1.2.2.2.2.2.2.2.2.2 rfl (by omega) (jk_x (by omega) (by omega)) ?_
  try rw [e1]
  try rw [e2]
  try rw [e3]
  try rw [e4]
  try rw [e5]
  refine sg_if_eq (pc := 1349) (tgt := 1356) dL_law_1349 (by decide) (fun c1349 => ?_) (fun c1349 => ?_)
  · refine sg_iconst (pc := 1356) (z := 0) dL_law_1356 (by decide) ?_
    refine sg_aload_n (pc := 1357) (j := 3) dL_law_1357 rfl rfl ?_
    refine st_cS5 (pc := 1358) (d' := d - 1) (mc' := 8) (ms' := 48) g dL_law_1358 cb_L_number cw_L_number ml_L_284 ms_L_number (Nat.le_of_ble_eq_true rfl) (by first | exact jl_d0 hd rfl | omega) (by first | exact Nat.le_of_ble_eq_true rfl | omega) (by first | exact Nat.le_of_ble_eq_true rfl | omega) ?_
    refine s_L_number g nc (by omega) jJ.1 (fun v1 h1 I1 X1 F1 k1 o1 => sg_K1 ?_)
    refine sg_istore (pc := 1361) dL_law_1361 (by decide) ?_
    refine sg_aload_n (pc := 1363) (j := 2) dL_law_1363 rfl rfl ?_
    refine sg_aload_n (pc := 1364) (j := 0) dL_law_1364 rfl rfl ?_
    refine sg_iload (pc := 1365) dL_law_1365 rfl ?_
    refine sg_iconst (pc := 1367) (z := 1) dL_law_1367 (by decide) ?_
    first | refine sg_iaddB (pc := 1368) dL_law_1368 (by omega) (by omega) ?_ | refine sg_iadd (pc := 1368) dL_law_1368 ?_
    refine sg_iald (pc := 1369) dL_law_1369 I1.2.2.2.2.2.2.2.2.2 rfl (by omega) (jk_x (by omega) (by omega)) ?_
    try rw [e1]
    try rw [e2]
    try rw [e3]
    try rw [e4]
    try rw [e5]
    refine sg_aload_n (pc := 1370) (j := 0) dL_law_1370 rfl rfl ?_
    refine sg_iload (pc := 1371) dL_law_1371 rfl ?_
    refine sg_iconst (pc := 1373) (z := 2) dL_law_1373 (by decide) ?_
    first | refine sg_iaddB (pc := 1374) dL_law_1374 (by omega) (by omega) ?_ | refine sg_iadd (pc := 1374) dL_law_1374 ?_
    refine sg_iald (pc := 1375) dL_law_1375 I1.2.2.2.2.2.2.2.2.2 rfl (by omega) (jk_x (by omega) (by omega)) ?_
    try rw [e1]
    try rw [e2]
    try rw [e3]
    try rw [e4]
    try rw [e5]
    refine sg_aload_n (pc := 1376) (j := 0) dL_law_1376 rfl rfl ?_
    refine sg_iload (pc := 1377) dL_law_1377 rfl ?_
    refine sg_iconst (pc := 1379) (z := 3) dL_law_1379 (by decide) ?_
    first | refine sg_iaddB (pc := 1380) dL_law_1380 (by omega) (by omega) ?_ | refine sg_iadd (pc := 1380) dL_law_1380 ?_
    refine sg_iald (pc := 1381) dL_law_1381 I1.2.2.2.2.2.2.2.2.2 rfl (by omega) (jk_x (by omega) (by omega)) ?_
    try rw [e1]
    try rw [e2]
    try rw [e3]
    try rw [e4]
    try rw [e5]
    refine sg_if_eq (pc := 1382) (tgt := 1389) dL_law_1382 (by decide) (fun c1382 => ?_) (fun c1382 => absurd c1349 c1382)
    refine sg_iconst (pc := 1389) (z := 0) dL_law_1389 (by decide) ?_
    refine st_as (fun H r => jk_tgR (B := B) r) ?_
    have m2 := jk_Im I1
    have ab0 := jk_Jt jJ I1 X1
    refine sg_cE3 (pc := 1390) (d' := d - 1) (mc' := 0) (ms' := 0) 8 g dL_law_1390 cb_X7_number ml_L_286 mn_X7_number rfl mv_X7_number (Nat.le_of_ble_eq_true rfl) (md_oc m2) (Nat.le_of_ble_eq_true rfl) (by first | exact jl_d0 hd rfl | omega) (by first | exact Nat.le_of_ble_eq_true rfl | omega) (by first | exact Nat.le_of_ble_eq_true rfl | omega) ?_
    refine s_X7_number g (by first | exact jl_d1 hd rfl | omega) m2 (fun v2 h2 c2_0 c2_1 y2 => sg_K1 ?_)
    refine st_as (fun H r => jk_unR I1.1 r) ?_
    have J2 : jk_J w B M O S xs (jk_unt B h2) A := jk_JM I1 (md_YW y2) (cf_XF jJ.2.1 F1) (y2.2.2.trans ab0) jJ.2.2.2
    have y2 := md_YW y2
    have I2 := J2.1
    refine sg_istore (pc := 1393) dL_law_1393 (by decide) ?_
    refine sg_goto (pc := 1395) (tgt := 2465) dL_law_1395 (by decide) ?_
    refine sg_lsub (lv' := [(0, _), (1, _), (2, _), (3, _), (4, _)]) ⟨rfl, rfl, rfl, rfl, rfl, trivial⟩ ?_
    exact K _ _ _ _ J2 (by omega) (by omega)
  · refine sg_iconst (pc := 1352) (z := 1) dL_law_1352 (by decide) ?_
    refine sg_goto (pc := 1353) (tgt := 1357) dL_law_1353 (by decide) ?_
    refine sg_aload_n (pc := 1357) (j := 3) dL_law_1357 rfl rfl ?_
    refine st_cS5 (pc := 1358) (d' := d - 1) (mc' := 8) (ms' := 48) g dL_law_1358 cb_L_number cw_L_number ml_L_284 ms_L_number (Nat.le_of_ble_eq_true rfl) (by first | exact jl_d0 hd rfl | omega) (by first | exact Nat.le_of_ble_eq_true rfl | omega) (by first | exact Nat.le_of_ble_eq_true rfl | omega) ?_
    refine s_L_number g nc (by omega) jJ.1 (fun v1 h1 I1 X1 F1 k1 o1 => sg_K1 ?_)
    refine sg_istore (pc := 1361) dL_law_1361 (by decide) ?_
    refine sg_aload_n (pc := 1363) (j := 2) dL_law_1363 rfl rfl ?_
    refine sg_aload_n (pc := 1364) (j := 0) dL_law_1364 rfl rfl ?_
    refine sg_iload (pc := 1365) dL_law_1365 rfl ?_
    refine sg_iconst (pc := 1367) (z := 1) dL_law_1367 (by decide) ?_
    first | refine sg_iaddB (pc := 1368) dL_law_1368 (by omega) (by omega) ?_ | refine sg_iadd (pc := 1368) dL_law_1368 ?_
    refine sg_iald (pc := 1369) dL_law_1369 I1.2.2.2.2.2.2.2.2.2 rfl (by omega) (jk_x (by omega) (by omega)) ?_
    try rw [e1]
    try rw [e2]
    try rw [e3]
    try rw [e4]
    try rw [e5]
    refine sg_aload_n (pc := 1370) (j := 0) dL_law_1370 rfl rfl ?_
    refine sg_iload (pc := 1371) dL_law_1371 rfl ?_
    refine sg_iconst (pc := 1373) (z := 2) dL_law_1373 (by decide) ?_
    first | refine sg_iaddB (pc := 1374) dL_law_1374 (by omega) (by omega) ?_ | refine sg_iadd (pc := 1374) dL_law_1374 ?_
    refine sg_iald (pc := 1375) dL_law_1375 I1.2.2.2.2.2.2.2.2.2 rfl (by omega) (jk_x (by omega) (by omega)) ?_
    try rw [e1]
    try rw [e2]
    try rw [e3]
    try rw [e4]
    try rw [e5]
    refine sg_aload_n (pc := 1376) (j := 0) dL_law_1376 rfl rfl ?_
    refine sg_iload (pc := 1377) dL_law_1377 rfl ?_
    refine sg_iconst (pc := 1379) (z := 3) dL_law_1379 (by decide) ?_
    first | refine sg_iaddB (pc := 1380) dL_law_1380 (by omega) (by omega) ?_ | refine sg_iadd (pc := 1380) dL_law_1380 ?_
    refine sg_iald (pc := 1381) dL_law_1381 I1.2.2.2.2.2.2.2.2.2 rfl (by omega) (jk_x (by omega) (by omega)) ?_
    try rw [e1]
    try rw [e2]
    try rw [e3]
    try rw [e4]
    try rw [e5]
    refine sg_if_eq (pc := 1382) (tgt := 1389) dL_law_1382 (by decide) (fun c1382 => absurd c1382 c1349) (fun c1382 => ?_)
    refine sg_iconst (pc := 1385) (z := 1) dL_law_1385 (by decide) ?_
    refine sg_goto (pc := 1386) (tgt := 1390) dL_law_1386 (by decide) ?_
    refine st_as (fun H r => jk_tgR (B := B) r) ?_
    have m2 := jk_Im I1
    have ab0 := jk_Jt jJ I1 X1
    refine sg_cE3 (pc := 1390) (d' := d - 1) (mc' := 0) (ms' := 0) 8 g dL_law_1390 cb_X7_number ml_L_286 mn_X7_number rfl mv_X7_number (Nat.le_of_ble_eq_true rfl) (md_oc m2) (Nat.le_of_ble_eq_true rfl) (by first | exact jl_d0 hd rfl | omega) (by first | exact Nat.le_of_ble_eq_true rfl | omega) (by first | exact Nat.le_of_ble_eq_true rfl | omega) ?_
    refine s_X7_number g (by first | exact jl_d1 hd rfl | omega) m2 (fun v2 h2 c2_0 c2_1 y2 => sg_K1 ?_)
    refine st_as (fun H r => jk_unR I1.1 r) ?_
    have J2 : jk_J w B M O S xs (jk_unt B h2) A := jk_JM I1 (md_YW y2) (cf_XF jJ.2.1 F1) (y2.2.2.trans ab0) jJ.2.2.2
    have y2 := md_YW y2
    have I2 := J2.1
    refine sg_istore (pc := 1393) dL_law_1393 (by decide) ?_
    refine sg_goto (pc := 1395) (tgt := 2465) dL_law_1395 (by decide) ?_
    refine sg_lsub (lv' := [(0, _), (1, _), (2, _), (3, _), (4, _)]) ⟨rfl, rfl, rfl, rfl, rfl, trivial⟩ ?_
    exact K _ _ _ _ J2 (by omega) (by omega)

set_option maxRecDepth 100000 in
set_option maxHeartbeats 1000000 in
theorem lw_c28 {w : sg_W} {Q : sg_O → sg_H → Prop} {h : sg_H} (g : sg_G w) (nc : jk_C w) (hJ : jz w) {d mc ms : Nat} (hd : 30 ≤ d) {B M O S j k n : Nat} {xs : List Int} {A : fa_A} (jJ : jk_J w B M O S xs h A) (hj : 6 * j + 6 ≤ xs.length) (hl : xs.length ≤ 3072) (hk : k + 1030 ≤ mc) (hn : n + (0 + 0) ≤ ms) (K : ∀ (h' : sg_H) (k' n' : Nat) (A' : fa_A), jk_J w B M O S xs h' A' → k' ≤ k + 1030 → n' ≤ n + (0 + 0) → sg_R w mi_L_law d mc ms Q 2465 [(0, sg_r S), (1, sg_r B), (2, sg_r M), (3, sg_r O), (4, sg_i (6 * (j : Int)))] [] h' k' n') : sg_R w mi_L_law d mc ms Q 1398 [(0, sg_r S), (1, sg_r B), (2, sg_r M), (3, sg_r O), (4, sg_i (6 * (j : Int)))] [] h k n := by
  obtain ⟨p1, e1⟩ : ∃ p, xs.getD (6 * (j : Int) + 1).toNat 0 = p := ⟨_, rfl⟩
  obtain ⟨p2, e2⟩ : ∃ p, xs.getD (6 * (j : Int) + 2).toNat 0 = p := ⟨_, rfl⟩
  obtain ⟨p3, e3⟩ : ∃ p, xs.getD (6 * (j : Int) + 3).toNat 0 = p := ⟨_, rfl⟩
  obtain ⟨p4, e4⟩ : ∃ p, xs.getD (6 * (j : Int) + 4).toNat 0 = p := ⟨_, rfl⟩
  obtain ⟨p5, e5⟩ : ∃ p, xs.getD (6 * (j : Int) + 5).toNat 0 = p := ⟨_, rfl⟩
  refine sg_aload_n (pc := 1398) (j := 1) dL_law_1398 rfl rfl ?_
  refine sg_aload_n (pc := 1399) (j := 0) dL_law_1399 rfl rfl ?_
  refine sg_iload (pc := 1400) dL_law_1400 rfl ?_
  refine sg_iconst (pc := 1402) (z := 1) dL_law_1402 (by decide) ?_
  first | refine sg_iaddB (pc := 1403) dL_law_1403 (by omega) (by omega) ?_ | refine sg_iadd (pc := 1403) dL_law_1403 ?_
  refine sg_iald (pc := 1404) dL_law_1404 jJ.1.2.2.2.2.2.2.2.2.2 rfl (by omega) (jk_x (by omega) (by omega)) ?_
  try rw [e1]
  try rw [e2]
  try rw [e3]
  try rw [e4]
  try rw [e5]
  refine sg_aload_n (pc := 1405) (j := 0) dL_law_1405 rfl rfl ?_
  refine sg_iload (pc := 1406) dL_law_1406 rfl ?_
  refine sg_iconst (pc := 1408) (z := 2) dL_law_1408 (by decide) ?_
  first | refine sg_iaddB (pc := 1409) dL_law_1409 (by omega) (by omega) ?_ | refine sg_iadd (pc := 1409) dL_law_1409 ?_
  refine sg_iald (pc := 1410) dL_law_1410 jJ.1.2.2.2.2.2.2.2.2.2 rfl (by omega) (jk_x (by omega) (by omega)) ?_
  try rw [e1]
  try rw [e2]
  try rw [e3]
  try rw [e4]
  try rw [e5]
  refine sg_cE2 (pc := 1411) (d' := d - 1) (mc' := 0) (ms' := 0) 6 g dL_law_1411 cb_X5_digit ml_L_287 mn_X5_digit rfl mv_X5_digit (Nat.le_of_ble_eq_true rfl) (ck_oc jJ.1.2.2.1) (Nat.le_of_ble_eq_true rfl) (by first | exact jl_d0 hd rfl | omega) (by first | exact Nat.le_of_ble_eq_true rfl | omega) (by first | exact Nat.le_of_ble_eq_true rfl | omega) ?_
  refine s_X5_digit (B := B) g (by first | exact jl_d1 hd rfl | omega) (fun v1 c1 => sg_K1 ?_)
  have I1 := jJ.1
  have X1 : jk_X (jk_cut B h) (jk_cut B h) := jk_X0
  have F1 : jk_F B h h := jk_F0
  refine sg_pop (pc := 1414) dL_law_1414 rfl ?_
  refine sg_aload_n (pc := 1415) (j := 2) dL_law_1415 rfl rfl ?_
  refine sg_aload_n (pc := 1416) (j := 0) dL_law_1416 rfl rfl ?_
  refine sg_iload (pc := 1417) dL_law_1417 rfl ?_
  refine sg_iconst (pc := 1419) (z := 1) dL_law_1419 (by decide) ?_
  first | refine sg_iaddB (pc := 1420) dL_law_1420 (by omega) (by omega) ?_ | refine sg_iadd (pc := 1420) dL_law_1420 ?_
  refine sg_iald (pc := 1421) dL_law_1421 I1.2.2.2.2.2.2.2.2.2 rfl (by omega) (jk_x (by omega) (by omega)) ?_
  try rw [e1]
  try rw [e2]
  try rw [e3]
  try rw [e4]
  try rw [e5]
  refine sg_aload_n (pc := 1422) (j := 0) dL_law_1422 rfl rfl ?_
  refine sg_iload (pc := 1423) dL_law_1423 rfl ?_
  refine sg_iconst (pc := 1425) (z := 2) dL_law_1425 (by decide) ?_
  first | refine sg_iaddB (pc := 1426) dL_law_1426 (by omega) (by omega) ?_ | refine sg_iadd (pc := 1426) dL_law_1426 ?_
  refine sg_iald (pc := 1427) dL_law_1427 I1.2.2.2.2.2.2.2.2.2 rfl (by omega) (jk_x (by omega) (by omega)) ?_
  try rw [e1]
  try rw [e2]
  try rw [e3]
  try rw [e4]
  try rw [e5]
  refine st_as (fun H r => jk_tgR (B := B) r) ?_
  have m2 := jk_Im I1
  have ab0 := jk_Jt jJ I1 X1
  refine sg_cE2 (pc := 1428) (d' := d - 1) (mc' := 0) (ms' := 0) 8 g dL_law_1428 cb_X7_digit ml_L_290 mn_X7_digit rfl mv_X7_digit (Nat.le_of_ble_eq_true rfl) (md_oc m2) (Nat.le_of_ble_eq_true rfl) (by first | exact jl_d0 hd rfl | omega) (by first | exact Nat.le_of_ble_eq_true rfl | omega) (by first | exact Nat.le_of_ble_eq_true rfl | omega) ?_
  refine s_X7_digit g (by first | exact jl_d1 hd rfl | omega) m2 (fun v2 h2 c2_0 y2 => sg_K1 ?_)
  refine st_as (fun H r => jk_unR I1.1 r) ?_
  have J2 : jk_J w B M O S xs (jk_unt B h2) A := jk_JM I1 (md_YW y2) (cf_XF jJ.2.1 F1) (y2.2.2.trans ab0) jJ.2.2.2
  have y2 := md_YW y2
  have I2 := J2.1
  refine sg_pop (pc := 1431) dL_law_1431 rfl ?_
  refine sg_goto (pc := 1432) (tgt := 2465) dL_law_1432 (by decide) ?_
  refine sg_lsub (lv' := [(0, _), (1, _), (2, _), (3, _), (4, _)]) ⟨rfl, rfl, rfl, rfl, rfl, trivial⟩ ?_
  exact K _ _ _ _ J2 (by omega) (by omega)

set_option maxRecDepth 100000 in
set_option maxHeartbeats 1000000 in
theorem lw_c29 {w : sg_W} {Q : sg_O → sg_H → Prop} {h : sg_H} (g : sg_G w) (nc : jk_C w) (hJ : jz w) {d mc ms : Nat} (hd : 30 ≤ d) {B M O S j k n : Nat} {xs : List Int} {A : fa_A} (jJ : jk_J w B M O S xs h A) (hj : 6 * j + 6 ≤ xs.length) (hl : xs.length ≤ 3072) (hk : k + 1030 ≤ mc) (hn : n + (48 + 0) ≤ ms) (K : ∀ (h' : sg_H) (k' n' : Nat) (A' : fa_A), jk_J w B M O S xs h' A' → k' ≤ k + 1030 → n' ≤ n + (48 + 0) → sg_R w mi_L_law d mc ms Q 2465 [(0, sg_r S), (1, sg_r B), (2, sg_r M), (3, sg_r O), (4, sg_i (6 * (j : Int)))] [] h' k' n') : sg_R w mi_L_law d mc ms Q 1435 [(0, sg_r S), (1, sg_r B), (2, sg_r M), (3, sg_r O), (4, sg_i (6 * (j : Int)))] [] h k n := by
  obtain ⟨p1, e1⟩ : ∃ p, xs.getD (6 * (j : Int) + 1).toNat 0 = p := ⟨_, rfl⟩
  obtain ⟨p2, e2⟩ : ∃ p, xs.getD (6 * (j : Int) + 2).toNat 0 = p := ⟨_, rfl⟩
  obtain ⟨p3, e3⟩ : ∃ p, xs.getD (6 * (j : Int) + 3).toNat 0 = p := ⟨_, rfl⟩
  obtain ⟨p4, e4⟩ : ∃ p, xs.getD (6 * (j : Int) + 4).toNat 0 = p := ⟨_, rfl⟩
  obtain ⟨p5, e5⟩ : ∃ p, xs.getD (6 * (j : Int) + 5).toNat 0 = p := ⟨_, rfl⟩
  refine sg_aload_n (pc := 1435) (j := 1) dL_law_1435 rfl rfl ?_
  refine sg_aload_n (pc := 1436) (j := 0) dL_law_1436 rfl rfl ?_
  refine sg_iload (pc := 1437) dL_law_1437 rfl ?_
  refine sg_iconst (pc := 1439) (z := 1) dL_law_1439 (by decide) ?_
  first | refine sg_iaddB (pc := 1440) dL_law_1440 (by omega) (by omega) ?_ | refine sg_iadd (pc := 1440) dL_law_1440 ?_
  refine sg_iald (pc := 1441) dL_law_1441 jJ.1.2.2.2.2.2.2.2.2.2 rfl (by omega) (jk_x (by omega) (by omega)) ?_
  try rw [e1]
  try rw [e2]
  try rw [e3]
  try rw [e4]
  try rw [e5]
  refine sg_aload_n (pc := 1442) (j := 3) dL_law_1442 rfl rfl ?_
  obtain ⟨L, hL⟩ : ∃ X, fa_L A p1.toNat = X := ⟨_, rfl⟩
  refine st_cS3 (pc := 1443) (d' := d - 1) (mc' := 8) (ms' := 48) g dL_law_1443 cb_L_length cw_L_length ml_L_291 ms_L_length (Nat.le_of_ble_eq_true rfl) (by first | exact jl_d0 hd rfl | omega) (by first | exact Nat.le_of_ble_eq_true rfl | omega) (by first | exact Nat.le_of_ble_eq_true rfl | omega) ?_
  refine f_L_length g nc (by omega) jJ.1 jJ.2.1 jJ.2.2.2 hL (fun v1 h1 I1 X1 k0 k1 F1 r1 => sg_K1 ?_)
  refine sg_istore (pc := 1446) dL_law_1446 (by decide) ?_
  refine sg_aload_n (pc := 1448) (j := 2) dL_law_1448 rfl rfl ?_
  refine sg_aload_n (pc := 1449) (j := 0) dL_law_1449 rfl rfl ?_
  refine sg_iload (pc := 1450) dL_law_1450 rfl ?_
  refine sg_iconst (pc := 1452) (z := 1) dL_law_1452 (by decide) ?_
  first | refine sg_iaddB (pc := 1453) dL_law_1453 (by omega) (by omega) ?_ | refine sg_iadd (pc := 1453) dL_law_1453 ?_
  refine sg_iald (pc := 1454) dL_law_1454 I1.2.2.2.2.2.2.2.2.2 rfl (by omega) (jk_x (by omega) (by omega)) ?_
  try rw [e1]
  try rw [e2]
  try rw [e3]
  try rw [e4]
  try rw [e5]
  refine st_as (fun H r => jk_tgR (B := B) r) ?_
  have m2 := jk_Im I1
  have ab0 := jk_Jt jJ I1 X1
  refine sg_cE1 (pc := 1455) (d' := d - 1) (mc' := 0) (ms' := 0) 8 g dL_law_1455 cb_X7_length ml_L_293 mn_X7_length rfl mv_X7_length (Nat.le_of_ble_eq_true rfl) (md_oc m2) (Nat.le_of_ble_eq_true rfl) (by first | exact jl_d0 hd rfl | omega) (by first | exact Nat.le_of_ble_eq_true rfl | omega) (by first | exact Nat.le_of_ble_eq_true rfl | omega) ?_
  refine s_X7_length g (by first | exact jl_d1 hd rfl | omega) m2 (fun v2 h2  y2 => sg_K1 ?_)
  refine st_as (fun H r => jk_unR I1.1 r) ?_
  have J2 : jk_J w B M O S xs (jk_unt B h2) A := jk_JM I1 (md_YW y2) (cf_XF jJ.2.1 F1) (y2.2.2.trans ab0) jJ.2.2.2
  have y2 := md_YW y2
  have I2 := J2.1
  refine sg_istore (pc := 1458) dL_law_1458 (by decide) ?_
  refine sg_goto (pc := 1460) (tgt := 2465) dL_law_1460 (by decide) ?_
  refine sg_lsub (lv' := [(0, _), (1, _), (2, _), (3, _), (4, _)]) ⟨rfl, rfl, rfl, rfl, rfl, trivial⟩ ?_
  exact K _ _ _ _ J2 (by omega) (by omega)

