set_option maxRecDepth 100000 in
set_option maxHeartbeats 1000000 in
theorem lw_c20 {w : sg_W} {Q : sg_O → sg_H → Prop} {h : sg_H} (g : sg_G w) (nc : jk_C w) (hJ : jz w) {d mc ms : Nat} (hd : 30 ≤ d) {B M O S j k n : Nat} {xs : List Int} {A : fa_A} (jJ : jk_J w B M O S xs h A) (hj : 6 * j + 6 ≤ xs.length) (hl : xs.length ≤ 3072) (hk : k + 1030 ≤ mc) (hn : n + (48 + 0) ≤ ms) (K : ∀ (h' : sg_H) (k' n' : Nat) (A' : fa_A), jk_J w B M O S xs h' A' → k' ≤ k + 1030 → n' ≤ n + (48 + 0) → sg_R w mi_L_law d mc ms Q 2465 [(0, sg_r S), (1, sg_r B), (2, sg_r M), (3, sg_r O), (4, sg_i (6 * (j : Int)))] [] h' k' n') : sg_R w mi_L_law d mc ms Q 1021 [(0, sg_r S), (1, sg_r B), (2, sg_r M), (3, sg_r O), (4, sg_i (6 * (j : Int)))] [] h k n := by
  obtain ⟨p1, e1⟩ : ∃ p, xs.getD (6 * (j : Int) + 1).toNat 0 = p := ⟨_, rfl⟩
  obtain ⟨p2, e2⟩ : ∃ p, xs.getD (6 * (j : Int) + 2).toNat 0 = p := ⟨_, rfl⟩
  obtain ⟨p3, e3⟩ : ∃ p, xs.getD (6 * (j : Int) + 3).toNat 0 = p := ⟨_, rfl⟩
  obtain ⟨p4, e4⟩ : ∃ p, xs.getD (6 * (j : Int) + 4).toNat 0 = p := ⟨_, rfl⟩
  obtain ⟨p5, e5⟩ : ∃ p, xs.getD (6 * (j : Int) + 5).toNat 0 = p := ⟨_, rfl⟩
  refine sg_aload_n (pc := 1021) (j := 1) dL_law_1021 rfl rfl ?_
  refine sg_aload_n (pc := 1022) (j := 0) dL_law_1022 rfl rfl ?_
  refine sg_iload (pc := 1023) dL_law_1023 rfl ?_
  refine sg_iconst (pc := 1025) (z := 1) dL_law_1025 (by decide) ?_
  first | refine sg_iaddB (pc := 1026) dL_law_1026 (by omega) (by omega) ?_ | refine sg_iadd (pc := 1026) dL_law_1026 ?_
  refine sg_iald (pc := 1027) dL_law_1027 jJ.1.2.2.2.2.2.2.2.2.2 rfl (by omega) (jk_x (by omega) (by omega)) ?_
  try rw [e1]
  try rw [e2]
  try rw [e3]
  try rw [e4]
  try rw [e5]
  refine sg_aload_n (pc := 1028) (j := 3) dL_law_1028 rfl rfl ?_
  refine st_cS3 (pc := 1029) (d' := d - 1) (mc' := 8) (ms' := 48) g dL_law_1029 cb_L_isLetterOrDigit cw_L_isLetterOrDigit ml_L_259 ms_L_isLetterOrDigit (Nat.le_of_ble_eq_true rfl) (by first | exact jl_d0 hd rfl | omega) (by first | exact Nat.le_of_ble_eq_true rfl | omega) (by first | exact Nat.le_of_ble_eq_true rfl | omega) ?_
  refine s_L_isLetterOrDigit g nc (by omega) jJ.1 (fun v1 h1 I1 X1 F1 k1 o1 => sg_K1 ?_)
  refine sg_istore (pc := 1032) dL_law_1032 (by decide) ?_
  refine sg_aload_n (pc := 1034) (j := 2) dL_law_1034 rfl rfl ?_
  refine sg_aload_n (pc := 1035) (j := 0) dL_law_1035 rfl rfl ?_
  refine sg_iload (pc := 1036) dL_law_1036 rfl ?_
  refine sg_iconst (pc := 1038) (z := 1) dL_law_1038 (by decide) ?_
  first | refine sg_iaddB (pc := 1039) dL_law_1039 (by omega) (by omega) ?_ | refine sg_iadd (pc := 1039) dL_law_1039 ?_
  refine sg_iald (pc := 1040) dL_law_1040 I1.2.2.2.2.2.2.2.2.2 rfl (by omega) (jk_x (by omega) (by omega)) ?_
  try rw [e1]
  try rw [e2]
  try rw [e3]
  try rw [e4]
  try rw [e5]
  refine st_as (fun H r => jk_tgR (B := B) r) ?_
  have m2 := jk_Im I1
  have ab0 := jk_Jt jJ I1 X1
  refine sg_cE1 (pc := 1041) (d' := d - 1) (mc' := 0) (ms' := 0) 8 g dL_law_1041 cb_X7_isLetterOrDigit ml_L_261 mn_X7_isLetterOrDigit rfl mv_X7_isLetterOrDigit (Nat.le_of_ble_eq_true rfl) (md_oc m2) (Nat.le_of_ble_eq_true rfl) (by first | exact jl_d0 hd rfl | omega) (by first | exact Nat.le_of_ble_eq_true rfl | omega) (by first | exact Nat.le_of_ble_eq_true rfl | omega) ?_
  refine s_X7_isLetterOrDigit g (by first | exact jl_d1 hd rfl | omega) m2 (fun v2 h2 c2_0 c2_1 c2_2 y2 => sg_K1 ?_)
  refine st_as (fun H r => jk_unR I1.1 r) ?_
  have J2 : jk_J w B M O S xs (jk_unt B h2) A := jk_JM I1 (md_YW y2) (cf_XF jJ.2.1 F1) (y2.2.2.trans ab0) jJ.2.2.2
  have y2 := md_YW y2
  have I2 := J2.1
  refine sg_istore (pc := 1044) dL_law_1044 (by decide) ?_
  refine sg_goto (pc := 1046) (tgt := 2465) dL_law_1046 (by decide) ?_
  refine sg_lsub (lv' := [(0, _), (1, _), (2, _), (3, _), (4, _)]) ⟨rfl, rfl, rfl, rfl, rfl, trivial⟩ ?_
  exact K _ _ _ _ J2 (by omega) (by omega)

set_option maxRecDepth 100000 in
set_option maxHeartbeats 1000000 in
theorem lw_c21 {w : sg_W} {Q : sg_O → sg_H → Prop} {h : sg_H} (g : sg_G w) (nc : jk_C w) (hJ : jz w) {d mc ms : Nat} (hd : 30 ≤ d) {B M O S j k n : Nat} {xs : List Int} {A : fa_A} (jJ : jk_J w B M O S xs h A) (hj : 6 * j + 6 ≤ xs.length) (hl : xs.length ≤ 3072) (hk : k + 1030 ≤ mc) (hn : n + (48 + 0) ≤ ms) (K : ∀ (h' : sg_H) (k' n' : Nat) (A' : fa_A), jk_J w B M O S xs h' A' → k' ≤ k + 1030 → n' ≤ n + (48 + 0) → sg_R w mi_L_law d mc ms Q 2465 [(0, sg_r S), (1, sg_r B), (2, sg_r M), (3, sg_r O), (4, sg_i (6 * (j : Int)))] [] h' k' n') : sg_R w mi_L_law d mc ms Q 1049 [(0, sg_r S), (1, sg_r B), (2, sg_r M), (3, sg_r O), (4, sg_i (6 * (j : Int)))] [] h k n := by
  obtain ⟨p1, e1⟩ : ∃ p, xs.getD (6 * (j : Int) + 1).toNat 0 = p := ⟨_, rfl⟩
  obtain ⟨p2, e2⟩ : ∃ p, xs.getD (6 * (j : Int) + 2).toNat 0 = p := ⟨_, rfl⟩
  obtain ⟨p3, e3⟩ : ∃ p, xs.getD (6 * (j : Int) + 3).toNat 0 = p := ⟨_, rfl⟩
  obtain ⟨p4, e4⟩ : ∃ p, xs.getD (6 * (j : Int) + 4).toNat 0 = p := ⟨_, rfl⟩
  obtain ⟨p5, e5⟩ : ∃ p, xs.getD (6 * (j : Int) + 5).toNat 0 = p := ⟨_, rfl⟩
  refine sg_aload_n (pc := 1049) (j := 1) dL_law_1049 rfl rfl ?_
  refine sg_aload_n (pc := 1050) (j := 0) dL_law_1050 rfl rfl ?_
  refine sg_iload (pc := 1051) dL_law_1051 rfl ?_
  refine sg_iconst (pc := 1053) (z := 1) dL_law_1053 (by decide) ?_
  first | refine sg_iaddB (pc := 1054) dL_law_1054 (by omega) (by omega) ?_ | refine sg_iadd (pc := 1054) dL_law_1054 ?_
  refine sg_iald (pc := 1055) dL_law_1055 jJ.1.2.2.2.2.2.2.2.2.2 rfl (by omega) (jk_x (by omega) (by omega)) ?_
  try rw [e1]
  try rw [e2]
  try rw [e3]
  try rw [e4]
  try rw [e5]
  refine sg_aload_n (pc := 1056) (j := 3) dL_law_1056 rfl rfl ?_
  refine st_cS3 (pc := 1057) (d' := d - 1) (mc' := 8) (ms' := 48) g dL_law_1057 cb_L_isWhite cw_L_isWhite ml_L_262 ms_L_isWhite (Nat.le_of_ble_eq_true rfl) (by first | exact jl_d0 hd rfl | omega) (by first | exact Nat.le_of_ble_eq_true rfl | omega) (by first | exact Nat.le_of_ble_eq_true rfl | omega) ?_
  refine s_L_isWhite g nc (by omega) jJ.1 (fun v1 h1 I1 X1 F1 k1 o1 => sg_K1 ?_)
  refine sg_istore (pc := 1060) dL_law_1060 (by decide) ?_
  refine sg_aload_n (pc := 1062) (j := 2) dL_law_1062 rfl rfl ?_
  refine sg_aload_n (pc := 1063) (j := 0) dL_law_1063 rfl rfl ?_
  refine sg_iload (pc := 1064) dL_law_1064 rfl ?_
  refine sg_iconst (pc := 1066) (z := 1) dL_law_1066 (by decide) ?_
  first | refine sg_iaddB (pc := 1067) dL_law_1067 (by omega) (by omega) ?_ | refine sg_iadd (pc := 1067) dL_law_1067 ?_
  refine sg_iald (pc := 1068) dL_law_1068 I1.2.2.2.2.2.2.2.2.2 rfl (by omega) (jk_x (by omega) (by omega)) ?_
  try rw [e1]
  try rw [e2]
  try rw [e3]
  try rw [e4]
  try rw [e5]
  refine st_as (fun H r => jk_tgR (B := B) r) ?_
  have m2 := jk_Im I1
  have ab0 := jk_Jt jJ I1 X1
  refine sg_cE1 (pc := 1069) (d' := d - 1) (mc' := 0) (ms' := 0) 8 g dL_law_1069 cb_X7_isWhite ml_L_264 mn_X7_isWhite rfl mv_X7_isWhite (Nat.le_of_ble_eq_true rfl) (md_oc m2) (Nat.le_of_ble_eq_true rfl) (by first | exact jl_d0 hd rfl | omega) (by first | exact Nat.le_of_ble_eq_true rfl | omega) (by first | exact Nat.le_of_ble_eq_true rfl | omega) ?_
  refine s_X7_isWhite g (by first | exact jl_d1 hd rfl | omega) m2 (fun v2 h2 c2_0 c2_1 c2_2 y2 => sg_K1 ?_)
  refine st_as (fun H r => jk_unR I1.1 r) ?_
  have J2 : jk_J w B M O S xs (jk_unt B h2) A := jk_JM I1 (md_YW y2) (cf_XF jJ.2.1 F1) (y2.2.2.trans ab0) jJ.2.2.2
  have y2 := md_YW y2
  have I2 := J2.1
  refine sg_istore (pc := 1072) dL_law_1072 (by decide) ?_
  refine sg_goto (pc := 1074) (tgt := 2465) dL_law_1074 (by decide) ?_
  refine sg_lsub (lv' := [(0, _), (1, _), (2, _), (3, _), (4, _)]) ⟨rfl, rfl, rfl, rfl, rfl, trivial⟩ ?_
  exact K _ _ _ _ J2 (by omega) (by omega)

set_option maxRecDepth 100000 in
set_option maxHeartbeats 1000000 in
theorem lw_c22 {w : sg_W} {Q : sg_O → sg_H → Prop} {h : sg_H} (g : sg_G w) (nc : jk_C w) (hJ : jz w) {d mc ms : Nat} (hd : 30 ≤ d) {B M O S j k n : Nat} {xs : List Int} {A : fa_A} (jJ : jk_J w B M O S xs h A) (hj : 6 * j + 6 ≤ xs.length) (hl : xs.length ≤ 3072) (hk : k + 1030 ≤ mc) (hn : n + (48 + 0) ≤ ms) (K : ∀ (h' : sg_H) (k' n' : Nat) (A' : fa_A), jk_J w B M O S xs h' A' → k' ≤ k + 1030 → n' ≤ n + (48 + 0) → sg_R w mi_L_law d mc ms Q 2465 [(0, sg_r S), (1, sg_r B), (2, sg_r M), (3, sg_r O), (4, sg_i (6 * (j : Int)))] [] h' k' n') : sg_R w mi_L_law d mc ms Q 1077 [(0, sg_r S), (1, sg_r B), (2, sg_r M), (3, sg_r O), (4, sg_i (6 * (j : Int)))] [] h k n := by
  obtain ⟨p1, e1⟩ : ∃ p, xs.getD (6 * (j : Int) + 1).toNat 0 = p := ⟨_, rfl⟩
  obtain ⟨p2, e2⟩ : ∃ p, xs.getD (6 * (j : Int) + 2).toNat 0 = p := ⟨_, rfl⟩
  obtain ⟨p3, e3⟩ : ∃ p, xs.getD (6 * (j : Int) + 3).toNat 0 = p := ⟨_, rfl⟩
  obtain ⟨p4, e4⟩ : ∃ p, xs.getD (6 * (j : Int) + 4).toNat 0 = p := ⟨_, rfl⟩
  obtain ⟨p5, e5⟩ : ∃ p, xs.getD (6 * (j : Int) + 5).toNat 0 = p := ⟨_, rfl⟩
  refine sg_aload_n (pc := 1077) (j := 1) dL_law_1077 rfl rfl ?_
  refine sg_aload_n (pc := 1078) (j := 0) dL_law_1078 rfl rfl ?_
  refine sg_iload (pc := 1079) dL_law_1079 rfl ?_
  refine sg_iconst (pc := 1081) (z := 1) dL_law_1081 (by decide) ?_
  first | refine sg_iaddB (pc := 1082) dL_law_1082 (by omega) (by omega) ?_ | refine sg_iadd (pc := 1082) dL_law_1082 ?_
  refine sg_iald (pc := 1083) dL_law_1083 jJ.1.2.2.2.2.2.2.2.2.2 rfl (by omega) (jk_x (by omega) (by omega)) ?_
  try rw [e1]
  try rw [e2]
  try rw [e3]
  try rw [e4]
  try rw [e5]
  refine sg_aload_n (pc := 1084) (j := 3) dL_law_1084 rfl rfl ?_
  refine st_cS3 (pc := 1085) (d' := d - 1) (mc' := 8) (ms' := 48) g dL_law_1085 cb_L_isGreat cw_L_isGreat ml_L_265 ms_L_isGreat (Nat.le_of_ble_eq_true rfl) (by first | exact jl_d0 hd rfl | omega) (by first | exact Nat.le_of_ble_eq_true rfl | omega) (by first | exact Nat.le_of_ble_eq_true rfl | omega) ?_
  refine s_L_isGreat g nc (by omega) jJ.1 (fun v1 h1 I1 X1 F1 k1 o1 => sg_K1 ?_)
  refine sg_istore (pc := 1088) dL_law_1088 (by decide) ?_
  refine sg_aload_n (pc := 1090) (j := 2) dL_law_1090 rfl rfl ?_
  refine sg_aload_n (pc := 1091) (j := 0) dL_law_1091 rfl rfl ?_
  refine sg_iload (pc := 1092) dL_law_1092 rfl ?_
  refine sg_iconst (pc := 1094) (z := 1) dL_law_1094 (by decide) ?_
  first | refine sg_iaddB (pc := 1095) dL_law_1095 (by omega) (by omega) ?_ | refine sg_iadd (pc := 1095) dL_law_1095 ?_
  refine sg_iald (pc := 1096) dL_law_1096 I1.2.2.2.2.2.2.2.2.2 rfl (by omega) (jk_x (by omega) (by omega)) ?_
  try rw [e1]
  try rw [e2]
  try rw [e3]
  try rw [e4]
  try rw [e5]
  refine st_as (fun H r => jk_tgR (B := B) r) ?_
  have m2 := jk_Im I1
  have ab0 := jk_Jt jJ I1 X1
  refine sg_cE1 (pc := 1097) (d' := d - 1) (mc' := 0) (ms' := 0) 8 g dL_law_1097 cb_X7_isGreat ml_L_267 mn_X7_isGreat rfl mv_X7_isGreat (Nat.le_of_ble_eq_true rfl) (md_oc m2) (Nat.le_of_ble_eq_true rfl) (by first | exact jl_d0 hd rfl | omega) (by first | exact Nat.le_of_ble_eq_true rfl | omega) (by first | exact Nat.le_of_ble_eq_true rfl | omega) ?_
  refine s_X7_isGreat g (by first | exact jl_d1 hd rfl | omega) m2 (fun v2 h2 c2_0 c2_1 c2_2 y2 => sg_K1 ?_)
  refine st_as (fun H r => jk_unR I1.1 r) ?_
  have J2 : jk_J w B M O S xs (jk_unt B h2) A := jk_JM I1 (md_YW y2) (cf_XF jJ.2.1 F1) (y2.2.2.trans ab0) jJ.2.2.2
  have y2 := md_YW y2
  have I2 := J2.1
  refine sg_istore (pc := 1100) dL_law_1100 (by decide) ?_
  refine sg_goto (pc := 1102) (tgt := 2465) dL_law_1102 (by decide) ?_
  refine sg_lsub (lv' := [(0, _), (1, _), (2, _), (3, _), (4, _)]) ⟨rfl, rfl, rfl, rfl, rfl, trivial⟩ ?_
  exact K _ _ _ _ J2 (by omega) (by omega)

set_option maxRecDepth 100000 in
set_option maxHeartbeats 1000000 in
theorem lw_c23 {w : sg_W} {Q : sg_O → sg_H → Prop} {h : sg_H} (g : sg_G w) (nc : jk_C w) (hJ : jz w) {d mc ms : Nat} (hd : 30 ≤ d) {B M O S j k n : Nat} {xs : List Int} {A : fa_A} (jJ : jk_J w B M O S xs h A) (hj : 6 * j + 6 ≤ xs.length) (hl : xs.length ≤ 3072) (hk : k + 1030 ≤ mc) (hn : n + (48 + 0) ≤ ms) (K : ∀ (h' : sg_H) (k' n' : Nat) (A' : fa_A), jk_J w B M O S xs h' A' → k' ≤ k + 1030 → n' ≤ n + (48 + 0) → sg_R w mi_L_law d mc ms Q 2465 [(0, sg_r S), (1, sg_r B), (2, sg_r M), (3, sg_r O), (4, sg_i (6 * (j : Int)))] [] h' k' n') : sg_R w mi_L_law d mc ms Q 1105 [(0, sg_r S), (1, sg_r B), (2, sg_r M), (3, sg_r O), (4, sg_i (6 * (j : Int)))] [] h k n := by
  obtain ⟨p1, e1⟩ : ∃ p, xs.getD (6 * (j : Int) + 1).toNat 0 = p := ⟨_, rfl⟩
  obtain ⟨p2, e2⟩ : ∃ p, xs.getD (6 * (j : Int) + 2).toNat 0 = p := ⟨_, rfl⟩
  obtain ⟨p3, e3⟩ : ∃ p, xs.getD (6 * (j : Int) + 3).toNat 0 = p := ⟨_, rfl⟩
  obtain ⟨p4, e4⟩ : ∃ p, xs.getD (6 * (j : Int) + 4).toNat 0 = p := ⟨_, rfl⟩
  obtain ⟨p5, e5⟩ : ∃ p, xs.getD (6 * (j : Int) + 5).toNat 0 = p := ⟨_, rfl⟩
  refine sg_aload_n (pc := 1105) (j := 1) dL_law_1105 rfl rfl ?_
  refine sg_aload_n (pc := 1106) (j := 0) dL_law_1106 rfl rfl ?_
  refine sg_iload (pc := 1107) dL_law_1107 rfl ?_
  refine sg_iconst (pc := 1109) (z := 1) dL_law_1109 (by decide) ?_
  first | refine sg_iaddB (pc := 1110) dL_law_1110 (by omega) (by omega) ?_ | refine sg_iadd (pc := 1110) dL_law_1110 ?_
  refine sg_iald (pc := 1111) dL_law_1111 jJ.1.2.2.2.2.2.2.2.2.2 rfl (by omega) (jk_x (by omega) (by omega)) ?_
  try rw [e1]
  try rw [e2]
  try rw [e3]
  try rw [e4]
  try rw [e5]
  refine sg_aload_n (pc := 1112) (j := 3) dL_law_1112 rfl rfl ?_
  refine st_cS3 (pc := 1113) (d' := d - 1) (mc' := 8) (ms' := 48) g dL_law_1113 cb_L_kinds cw_L_kinds ml_L_268 ms_L_kinds (Nat.le_of_ble_eq_true rfl) (by first | exact jl_d0 hd rfl | omega) (by first | exact Nat.le_of_ble_eq_true rfl | omega) (by first | exact Nat.le_of_ble_eq_true rfl | omega) ?_
  refine s_L_kinds g nc (by omega) jJ.1 (fun v1 h1 I1 X1 F1 k1 o1 => sg_K1 ?_)
  refine sg_istore (pc := 1116) dL_law_1116 (by decide) ?_
  refine sg_aload_n (pc := 1118) (j := 2) dL_law_1118 rfl rfl ?_
  refine sg_aload_n (pc := 1119) (j := 0) dL_law_1119 rfl rfl ?_
  refine sg_iload (pc := 1120) dL_law_1120 rfl ?_
  refine sg_iconst (pc := 1122) (z := 1) dL_law_1122 (by decide) ?_
  first | refine sg_iaddB (pc := 1123) dL_law_1123 (by omega) (by omega) ?_ | refine sg_iadd (pc := 1123) dL_law_1123 ?_
  refine sg_iald (pc := 1124) dL_law_1124 I1.2.2.2.2.2.2.2.2.2 rfl (by omega) (jk_x (by omega) (by omega)) ?_
  try rw [e1]
  try rw [e2]
  try rw [e3]
  try rw [e4]
  try rw [e5]
  refine st_as (fun H r => jk_tgR (B := B) r) ?_
  have m2 := jk_Im I1
  have ab0 := jk_Jt jJ I1 X1
  refine sg_cE1 (pc := 1125) (d' := d - 1) (mc' := 0) (ms' := 0) 8 g dL_law_1125 cb_X7_kinds ml_L_270 mn_X7_kinds rfl mv_X7_kinds (Nat.le_of_ble_eq_true rfl) (md_oc m2) (Nat.le_of_ble_eq_true rfl) (by first | exact jl_d0 hd rfl | omega) (by first | exact Nat.le_of_ble_eq_true rfl | omega) (by first | exact Nat.le_of_ble_eq_true rfl | omega) ?_
  refine s_X7_kinds g (by first | exact jl_d1 hd rfl | omega) m2 (fun v2 h2 c2_0 c2_1 y2 => sg_K1 ?_)
  refine st_as (fun H r => jk_unR I1.1 r) ?_
  have J2 : jk_J w B M O S xs (jk_unt B h2) A := jk_JM I1 (md_YW y2) (cf_XF jJ.2.1 F1) (y2.2.2.trans ab0) jJ.2.2.2
  have y2 := md_YW y2
  have I2 := J2.1
  refine sg_istore (pc := 1128) dL_law_1128 (by decide) ?_
  refine sg_goto (pc := 1130) (tgt := 2465) dL_law_1130 (by decide) ?_
  refine sg_lsub (lv' := [(0, _), (1, _), (2, _), (3, _), (4, _)]) ⟨rfl, rfl, rfl, rfl, rfl, trivial⟩ ?_
  exact K _ _ _ _ J2 (by omega) (by omega)

set_option maxRecDepth 100000 in
set_option maxHeartbeats 1000000 in
theorem lw_c24 {w : sg_W} {Q : sg_O → sg_H → Prop} {h : sg_H} (g : sg_G w) (nc : jk_C w) (hJ : jz w) {d mc ms : Nat} (hd : 30 ≤ d) {B M O S j k n : Nat} {xs : List Int} {A : fa_A} (jJ : jk_J w B M O S xs h A) (hj : 6 * j + 6 ≤ xs.length) (hl : xs.length ≤ 3072) (hk : k + 1030 ≤ mc) (hn : n + (48 + 0) ≤ ms) (K : ∀ (h' : sg_H) (k' n' : Nat) (A' : fa_A), jk_J w B M O S xs h' A' → k' ≤ k + 1030 → n' ≤ n + (48 + 0) → sg_R w mi_L_law d mc ms Q 2465 [(0, sg_r S), (1, sg_r B), (2, sg_r M), (3, sg_r O), (4, sg_i (6 * (j : Int)))] [] h' k' n') : sg_R w mi_L_law d mc ms Q 1133 [(0, sg_r S), (1, sg_r B), (2, sg_r M), (3, sg_r O), (4, sg_i (6 * (j : Int)))] [] h k n := by
  obtain ⟨p1, e1⟩ : ∃ p, xs.getD (6 * (j : Int) + 1).toNat 0 = p := ⟨_, rfl⟩
  obtain ⟨p2, e2⟩ : ∃ p, xs.getD (6 * (j : Int) + 2).toNat 0 = p := ⟨_, rfl⟩
  obtain ⟨p3, e3⟩ : ∃ p, xs.getD (6 * (j : Int) + 3).toNat 0 = p := ⟨_, rfl⟩
  obtain ⟨p4, e4⟩ : ∃ p, xs.getD (6 * (j : Int) + 4).toNat 0 = p := ⟨_, rfl⟩
  obtain ⟨p5, e5⟩ : ∃ p, xs.getD (6 * (j : Int) + 5).toNat 0 = p := ⟨_, rfl⟩
  refine sg_aload_n (pc := 1133) (j := 1) dL_law_1133 rfl rfl ?_
  refine sg_aload_n (pc := 1134) (j := 0) dL_law_1134 rfl rfl ?_
  refine sg_iload (pc := 1135) dL_law_1135 rfl ?_
  refine sg_iconst (pc := 1137) (z := 1) dL_law_1137 (by decide) ?_
  first | refine sg_iaddB (pc := 1138) dL_law_1138 (by omega) (by omega) ?_ | refine sg_iadd (pc := 1138) dL_law_1138 ?_
  refine sg_iald (pc := 1139) dL_law_1139 jJ.1.2.2.2.2.2.2.2.2.2 rfl (by omega) (jk_x (by omega) (by omega)) ?_
  try rw [e1]
  try rw [e2]
  try rw [e3]
  try rw [e4]
  try rw [e5]
  refine sg_aload_n (pc := 1140) (j := 0) dL_law_1140 rfl rfl ?_
  refine sg_iload (pc := 1141) dL_law_1141 rfl ?_
  refine sg_iconst (pc := 1143) (z := 2) dL_law_1143 (by decide) ?_
  first | refine sg_iaddB (pc := 1144) dL_law_1144 (by omega) (by omega) ?_ | refine sg_iadd (pc := 1144) dL_law_1144 ?_
  refine sg_iald (pc := 1145) dL_law_1145 jJ.1.2.2.2.2.2.2.2.2.2 rfl (by omega) (jk_x (by omega) (by omega)) ?_
  try rw [e1]
  try rw [e2]
  try rw [e3]
  try rw [e4]
  try rw [e5]
  refine sg_if_eq (pc := 1146) (tgt := 1153) dL_law_1146 (by decide) (fun c1146 => ?_) (fun c1146 => ?_)
  · refine sg_iconst (pc := 1153) (z := 0) dL_law_1153 (by decide) ?_
    refine sg_aload_n (pc := 1154) (j := 3) dL_law_1154 rfl rfl ?_
    refine st_cS4 (pc := 1155) (d' := d - 1) (mc' := 8) (ms' := 48) g dL_law_1155 cb_L_upper cw_L_upper ml_L_271 ms_L_upper (Nat.le_of_ble_eq_true rfl) (by first | exact jl_d0 hd rfl | omega) (by first | exact Nat.le_of_ble_eq_true rfl | omega) (by first | exact Nat.le_of_ble_eq_true rfl | omega) ?_
    refine s_L_upper g nc (by omega) jJ.1 (fun v1 h1 I1 X1 F1 k1 o1 => sg_K1 ?_)
    refine sg_istore (pc := 1158) dL_law_1158 (by decide) ?_
    refine sg_aload_n (pc := 1160) (j := 2) dL_law_1160 rfl rfl ?_
    refine sg_aload_n (pc := 1161) (j := 0) dL_law_1161 rfl rfl ?_
    refine sg_iload (pc := 1162) dL_law_1162 rfl ?_
    refine sg_iconst (pc := 1164) (z := 1) dL_law_1164 (by decide) ?_
    first | refine sg_iaddB (pc := 1165) dL_law_1165 (by omega) (by omega) ?_ | refine sg_iadd (pc := 1165) dL_law_1165 ?_
    refine sg_iald (pc := 1166) dL_law_1166 I1.2.2.2.2.2.2.2.2.2 rfl (by omega) (jk_x (by omega) (by omega)) ?_
    try rw [e1]
    try rw [e2]
    try rw [e3]
    try rw [e4]
    try rw [e5]
    refine sg_aload_n (pc := 1167) (j := 0) dL_law_1167 rfl rfl ?_
    refine sg_iload (pc := 1168) dL_law_1168 rfl ?_
    refine sg_iconst (pc := 1170) (z := 2) dL_law_1170 (by decide) ?_
    first | refine sg_iaddB (pc := 1171) dL_law_1171 (by omega) (by omega) ?_ | refine sg_iadd (pc := 1171) dL_law_1171 ?_
    refine sg_iald (pc := 1172) dL_law_1172 I1.2.2.2.2.2.2.2.2.2 rfl (by omega) (jk_x (by omega) (by omega)) ?_
    try rw [e1]
    try rw [e2]
    try rw [e3]
    try rw [e4]
    try rw [e5]
    refine sg_if_eq (pc := 1173) (tgt := 1180) dL_law_1173 (by decide) (fun c1173 => ?_) (fun c1173 => absurd c1146 c1173)
    refine sg_iconst (pc := 1180) (z := 0) dL_law_1180 (by decide) ?_
    refine st_as (fun H r => jk_tgR (B := B) r) ?_
    have m2 := jk_Im I1
    have ab0 := jk_Jt jJ I1 X1
    refine sg_cE2 (pc := 1181) (d' := d - 1) (mc' := 0) (ms' := 0) 8 g dL_law_1181 cb_X7_upper ml_L_274 mn_X7_upper rfl mv_X7_upper (Nat.le_of_ble_eq_true rfl) (md_oc m2) (Nat.le_of_ble_eq_true rfl) (by first | exact jl_d0 hd rfl | omega) (by first | exact Nat.le_of_ble_eq_true rfl | omega) (by first | exact Nat.le_of_ble_eq_true rfl | omega) ?_
    refine s_X7_upper g (by first | exact jl_d1 hd rfl | omega) m2 (fun v2 h2 c2_0 c2_1 y2 => sg_K1 ?_)
    refine st_as (fun H r => jk_unR I1.1 r) ?_
    have J2 : jk_J w B M O S xs (jk_unt B h2) A := jk_JM I1 (md_YW y2) (cf_XF jJ.2.1 F1) (y2.2.2.trans ab0) jJ.2.2.2
    have y2 := md_YW y2
    have I2 := J2.1
    refine sg_istore (pc := 1184) dL_law_1184 (by decide) ?_
    refine sg_goto (pc := 1186) (tgt := 2465) dL_law_1186 (by decide) ?_
    refine sg_lsub (lv' := [(0, _), (1, _), (2, _), (3, _), (4, _)]) ⟨rfl, rfl, rfl, rfl, rfl, trivial⟩ ?_
    exact K _ _ _ _ J2 (by omega) (by omega)
  · refine sg_iconst (pc := 1149) (z := 1) dL_law_1149 (by decide) ?_
    refine sg_goto (pc := 1150) (tgt := 1154) dL_law_1150 (by decide) ?_
    refine sg_aload_n (pc := 1154) (j := 3) dL_law_1154 rfl rfl ?_
    refine st_cS4 (pc := 1155) (d' := d - 1) (mc' := 8) (ms' := 48) g dL_law_1155 cb_L_upper cw_L_upper ml_L_271 ms_L_upper (Nat.le_of_ble_eq_true rfl) (by first | exact jl_d0 hd rfl | omega) (by first | exact Nat.le_of_ble_eq_true rfl | omega) (by first | exact Nat.le_of_ble_eq_true rfl | omega) ?_
    refine s_L_upper g nc (by omega) jJ.1 (fun v1 h1 I1 X1 F1 k1 o1 => sg_K1 ?_)
    refine sg_istore (pc := 1158) dL_law_1158 (by decide) ?_
    refine sg_aload_n (pc := 1160) (j := 2) dL_law_1160 rfl rfl ?_
    refine sg_aload_n (pc := 1161) (j := 0) dL_law_1161 rfl rfl ?_
    refine sg_iload (pc := 1162) dL_law_1162 rfl ?_
    refine sg_iconst (pc := 1164) (z := 1) dL_law_1164 (by decide) ?_
    first | refine sg_iaddB (pc := 1165) dL_law_1165 (by omega) (by omega) ?_ | refine sg_iadd (pc := 1165) dL_law_1165 ?_
    refine sg_iald (pc := 1166) dL_law_1166 I1.2.2.2.2.2.2.2.2.2 rfl (by omega) (jk_x (by omega) (by omega)) ?_
    try rw [e1]
    try rw [e2]
    try rw [e3]
    try rw [e4]
    try rw [e5]
    refine sg_aload_n (pc := 1167) (j := 0) dL_law_1167 rfl rfl ?_
    refine sg_iload (pc := 1168) dL_law_1168 rfl ?_
    refine sg_iconst (pc := 1170) (z := 2) dL_law_1170 (by decide) ?_
    first | refine sg_iaddB (pc := 1171) dL_law_1171 (by omega) (by omega) ?_ | refine sg_iadd (pc := 1171) dL_law_1171 ?_
    refine sg_iald (pc := 1172) dL_law_1172 I1.2.2.2.2.2.2.2.2.2 rfl (by omega) (jk_x (by omega) (by omega)) ?_
    try rw [e1]
    try rw [e2]
    try rw [e3]
    try rw [e4]
    try rw [e5]
    refine sg_if_eq (pc := 1173) (tgt := 1180) dL_law_1173 (by decide) (fun c1173 => absurd c1173 c1146) (fun c1173 => ?_)
    refine sg_iconst (pc := 1176) (z := 1) dL_law_1176 (by decide) ?_
    refine sg_goto (pc := 1177) (tgt := 1181) dL_law_1177 (by decide) ?_
    refine st_as (fun H r => jk_tgR (B := B) r) ?_
    have m2 := jk_Im I1
    have ab0 := jk_Jt jJ I1 X1
    refine sg_cE2 (pc := 1181) (d' := d - 1) (mc' := 0) (ms' := 0) 8 g dL_law_1181 cb_X7_upper ml_L_274 mn_X7_upper rfl mv_X7_upper (Nat.le_of_ble_eq_true rfl) (md_oc m2) (Nat.le_of_ble_eq_true rfl) (by first | exact jl_d0 hd rfl | omega) (by first | exact Nat.le_of_ble_eq_true rfl | omega) (by first | exact Nat.le_of_ble_eq_true rfl | omega) ?_
    refine s_X7_upper g (by first | exact jl_d1 hd rfl | omega) m2 (fun v2 h2 c2_0 c2_1 y2 => sg_K1 ?_)
    refine st_as (fun H r => jk_unR I1.1 r) ?_
    have J2 : jk_J w B M O S xs (jk_unt B h2) A := jk_JM I1 (md_YW y2) (cf_XF jJ.2.1 F1) (y2.2.2.trans ab0) jJ.2.2.2
    have y2 := md_YW y2
    have I2 := J2.1
    refine sg_istore (pc := 1184) dL_law_1184 (by decide) ?_
    refine sg_goto (pc := 1186) (tgt := 2465) dL_law_1186 (by decide) ?_
    refine sg_lsub (lv' := [(0, _), (1, _), (2, _), (3, _), (4, _)]) ⟨rfl, rfl, rfl, rfl, rfl, trivial⟩ ?_
    exact K _ _ _ _ J2 (by omega) (by omega)

set_option maxRecDepth 100000 in
set_option maxHeartbeats 1000000 in
theorem lw_c25 {w : sg_W} {Q : sg_O → sg_H → Prop} {h : sg_H} (g : sg_G w) (nc : jk_C w) (hJ : jz w) {d mc ms : Nat} (hd : 30 ≤ d) {B M O S j k n : Nat} {xs : List Int} {A : fa_A} (jJ : jk_J w B M O S xs h A) (hj : 6 * j + 6 ≤ xs.length) (hl : xs.length ≤ 3072) (hk : k + 1030 ≤ mc) (hn : n + (48 + 0) ≤ ms) (K : ∀ (h' : sg_H) (k' n' : Nat) (A' : fa_A), jk_J w B M O S xs h' A' → k' ≤ k + 1030 → n' ≤ n + (48 + 0) → sg_R w mi_L_law d mc ms Q 2465 [(0, sg_r S), (1, sg_r B), (2, sg_r M), (3, sg_r O), (4, sg_i (6 * (j : Int)))] [] h' k' n') : sg_R w mi_L_law d mc ms Q 1189 [(0, sg_r S), (1, sg_r B), (2, sg_r M), (3, sg_r O), (4, sg_i (6 * (j : Int)))] [] h k n := by
  obtain ⟨p1, e1⟩ : ∃ p, xs.getD (6 * (j : Int) + 1).toNat 0 = p := ⟨_, rfl⟩
  obtain ⟨p2, e2⟩ : ∃ p, xs.getD (6 * (j : Int) + 2).toNat 0 = p := ⟨_, rfl⟩
  obtain ⟨p3, e3⟩ : ∃ p, xs.getD (6 * (j : Int) + 3).toNat 0 = p := ⟨_, rfl⟩
  obtain ⟨p4, e4⟩ : ∃ p, xs.getD (6 * (j : Int) + 4).toNat 0 = p := ⟨_, rfl⟩
  obtain ⟨p5, e5⟩ : ∃ p, xs.getD (6 * (j : Int) + 5).toNat 0 = p := ⟨_, rfl⟩
  refine sg_aload_n (pc := 1189) (j := 1) dL_law_1189 rfl rfl ?_
  refine sg_aload_n (pc := 1190) (j := 0) dL_law_1190 rfl rfl ?_
  refine sg_iload (pc := 1191) dL_law_1191 rfl ?_
  refine sg_iconst (pc := 1193) (z := 1) dL_law_1193 (by decide) ?_
  first | refine sg_iaddB (pc := 1194) dL_law_1194 (by omega) (by omega) ?_ | refine sg_iadd (pc := 1194) dL_law_1194 ?_
  refine sg_iald (pc := 1195) dL_law_1195 jJ.1.2.2.2.2.2.2.2.2.2 rfl (by omega) (jk_x (by omega) (by omega)) ?_
  try rw [e1]
  try rw [e2]
  try rw [e3]
  try rw [e4]
  try rw [e5]
  refine sg_aload_n (pc := 1196) (j := 0) dL_law_1196 rfl rfl ?_
  refine sg_iload (pc := 1197) dL_law_1197 rfl ?_
  refine sg_iconst (pc := 1199) (z := 2) dL_law_1199 (by decide) ?_
  first | refine sg_iaddB (pc := 1200) dL_law_1200 (by omega) (by omega) ?_ | refine sg_iadd (pc := 1200) dL_law_1200 ?_
  refine sg_iald (pc := 1201) dL_law_1201 jJ.1.2.2.2.2.2.2.2.2.2 rfl (by omega) (jk_x (by omega) (by omega)) ?_
  try rw [e1]
  try rw [e2]
  try rw [e3]
  try rw [e4]
  try rw [e5]
  refine sg_if_eq (pc := 1202) (tgt := 1209) dL_law_1202 (by decide) (fun c1202 => ?_) (fun c1202 => ?_)
  · refine sg_iconst (pc := 1209) (z := 0) dL_law_1209 (by decide) ?_
    refine sg_aload_n (pc := 1210) (j := 3) dL_law_1210 rfl rfl ?_
    refine st_cS4 (pc := 1211) (d' := d - 1) (mc' := 8) (ms' := 48) g dL_law_1211 cb_L_lower cw_L_lower ml_L_275 ms_L_lower (Nat.le_of_ble_eq_true rfl) (by first | exact jl_d0 hd rfl | omega) (by first | exact Nat.le_of_ble_eq_true rfl | omega) (by first | exact Nat.le_of_ble_eq_true rfl | omega) ?_
    refine s_L_lower g nc (by omega) jJ.1 (fun v1 h1 I1 X1 F1 k1 o1 => sg_K1 ?_)
    refine sg_istore (pc := 1214) dL_law_1214 (by decide) ?_
    refine sg_aload_n (pc := 1216) (j := 2) dL_law_1216 rfl rfl ?_
    refine sg_aload_n (pc := 1217) (j := 0) dL_law_1217 rfl rfl ?_
    refine sg_iload (pc := 1218) dL_law_1218 rfl ?_
    refine sg_iconst (pc := 1220) (z := 1) dL_law_1220 (by decide) ?_
    first | refine sg_iaddB (pc := 1221) dL_law_1221 (by omega) (by omega) ?_ | refine sg_iadd (pc := 1221) dL_law_1221 ?_
    refine sg_iald (pc := 1222) dL_law_1222 I1.2.2.2.2.2.2.2.2.2 rfl (by omega) (jk_x (by omega) (by omega)) ?_
    try rw [e1]
    try rw [e2]
    try rw [e3]
    try rw [e4]
    try rw [e5]
    refine sg_aload_n (pc := 1223) (j := 0) dL_law_1223 rfl rfl ?_
    refine sg_iload (pc := 1224) dL_law_1224 rfl ?_
    refine sg_iconst (pc := 1226) (z := 2) dL_law_1226 (by decide) ?_
    first | refine sg_iaddB (pc := 1227) dL_law_1227 (by omega) (by omega) ?_ | refine sg_iadd (pc := 1227) dL_law_1227 ?_
    refine sg_iald (pc := 1228) dL_law_1228 I1.2.2.2.2.2.2.2.2.2 rfl (by omega) (jk_x (by omega) (by omega)) ?_
    try rw [e1]
    try rw [e2]
    try rw [e3]
    try rw [e4]
    try rw [e5]
    refine sg_if_eq (pc := 1229) (tgt := 1236) dL_law_1229 (by decide) (fun c1229 => ?_) (fun c1229 => absurd c1202 c1229)
    refine sg_iconst (pc := 1236) (z := 0) dL_law_1236 (by decide) ?_
    refine st_as (fun H r => jk_tgR (B := B) r) ?_
    have m2 := jk_Im I1
    have ab0 := jk_Jt jJ I1 X1
    refine sg_cE2 (pc := 1237) (d' := d - 1) (mc' := 0) (ms' := 0) 8 g dL_law_1237 cb_X7_lower ml_L_277 mn_X7_lower rfl mv_X7_lower (Nat.le_of_ble_eq_true rfl) (md_oc m2) (Nat.le_of_ble_eq_true rfl) (by first | exact jl_d0 hd rfl | omega) (by first | exact Nat.le_of_ble_eq_true rfl | omega) (by first | exact Nat.le_of_ble_eq_true rfl | omega) ?_
    refine s_X7_lower g (by first | exact jl_d1 hd rfl | omega) m2 (fun v2 h2 c2_0 c2_1 y2 => sg_K1 ?_)
    refine st_as (fun H r => jk_unR I1.1 r) ?_
    have J2 : jk_J w B M O S xs (jk_unt B h2) A := jk_JM I1 (md_YW y2) (cf_XF jJ.2.1 F1) (y2.2.2.trans ab0) jJ.2.2.2
    have y2 := md_YW y2
    have I2 := J2.1
    refine sg_istore (pc := 1240) dL_law_1240 (by decide) ?_
    refine sg_goto (pc := 1242) (tgt := 2465) dL_law_1242 (by decide) ?_
    refine sg_lsub (lv' := [(0, _), (1, _), (2, _), (3, _), (4, _)]) ⟨rfl, rfl, rfl, rfl, rfl, trivial⟩ ?_
    exact K _ _ _ _ J2 (by omega) (by omega)
  · refine sg_iconst (pc := 1205) (z := 1) dL_law_1205 (by decide) ?_
    refine sg_goto (pc := 1206) (tgt := 1210) dL_law_1206 (by decide) ?_
    refine sg_aload_n (pc := 1210) (j := 3) dL_law_1210 rfl rfl ?_
    refine st_cS4 (pc := 1211) (d' := d - 1) (mc' := 8) (ms' := 48) g dL_law_1211 cb_L_lower cw_L_lower ml_L_275 ms_L_lower (Nat.le_of_ble_eq_true rfl) (by first | exact jl_d0 hd rfl | omega) (by first | exact Nat.le_of_ble_eq_true rfl | omega) (by first | exact Nat.le_of_ble_eq_true rfl | omega) ?_
    refine s_L_lower g nc (by omega) jJ.1 (fun v1 h1 I1 X1 F1 k1 o1 => sg_K1 ?_)
    refine sg_istore (pc := 1214) dL_law_1214 (by decide) ?_
    refine sg_aload_n (pc := 1216) (j := 2) dL_law_1216 rfl rfl ?_
    refine sg_aload_n (pc := 1217) (j := 0) dL_law_1217 rfl rfl ?_
    refine sg_iload (pc := 1218) dL_law_1218 rfl ?_
    refine sg_iconst (pc := 1220) (z := 1) dL_law_1220 (by decide) ?_
    first | refine sg_iaddB (pc := 1221) dL_law_1221 (by omega) (by omega) ?_ | refine sg_iadd (pc := 1221) dL_law_1221 ?_
    refine sg_iald (pc := 1222) dL_law_1222 I1.2.2.2.2.2.2.2.2.2 rfl (by omega) (jk_x (by omega) (by omega)) ?_
    try rw [e1]
    try rw [e2]
    try rw [e3]
    try rw [e4]
    try rw [e5]
    refine sg_aload_n (pc := 1223) (j := 0) dL_law_1223 rfl rfl ?_
    refine sg_iload (pc := 1224) dL_law_1224 rfl ?_
    refine sg_iconst (pc := 1226) (z := 2) dL_law_1226 (by decide) ?_
    first | refine sg_iaddB (pc := 1227) dL_law_1227 (by omega) (by omega) ?_ | refine sg_iadd (pc := 1227) dL_law_1227 ?_
    refine sg_iald (pc := 1228) dL_law_1228 I1.2.2.2.2.2.2.2.2.2 rfl (by omega) (jk_x (by omega) (by omega)) ?_
    try rw [e1]
    try rw [e2]
    try rw [e3]
    try rw [e4]
    try rw [e5]
    refine sg_if_eq (pc := 1229) (tgt := 1236) dL_law_1229 (by decide) (fun c1229 => absurd c1229 c1202) (fun c1229 => ?_)
    refine sg_iconst (pc := 1232) (z := 1) dL_law_1232 (by decide) ?_
    refine sg_goto (pc := 1233) (tgt := 1237) dL_law_1233 (by decide) ?_
    refine st_as (fun H r => jk_tgR (B := B) r) ?_
    have m2 := jk_Im I1
    have ab0 := jk_Jt jJ I1 X1
    refine sg_cE2 (pc := 1237) (d' := d - 1) (mc' := 0) (ms' := 0) 8 g dL_law_1237 cb_X7_lower ml_L_277 mn_X7_lower rfl mv_X7_lower (Nat.le_of_ble_eq_true rfl) (md_oc m2) (Nat.le_of_ble_eq_true rfl) (by first | exact jl_d0 hd rfl | omega) (by first | exact Nat.le_of_ble_eq_true rfl | omega) (by first | exact Nat.le_of_ble_eq_true rfl | omega) ?_
    refine s_X7_lower g (by first | exact jl_d1 hd rfl | omega) m2 (fun v2 h2 c2_0 c2_1 y2 => sg_K1 ?_)
    refine st_as (fun H r => jk_unR I1.1 r) ?_
    have J2 : jk_J w B M O S xs (jk_unt B h2) A := jk_JM I1 (md_YW y2) (cf_XF jJ.2.1 F1) (y2.2.2.trans ab0) jJ.2.2.2
    have y2 := md_YW y2
    have I2 := J2.1
    refine sg_istore (pc := 1240) dL_law_1240 (by decide) ?_
    refine sg_goto (pc := 1242) (tgt := 2465) dL_law_1242 (by decide) ?_
    refine sg_lsub (lv' := [(0, _), (1, _), (2, _), (3, _), (4, _)]) ⟨rfl, rfl, rfl, rfl, rfl, trivial⟩ ?_
    exact K _ _ _ _ J2 (by omega) (by omega)

set_option maxRecDepth 100000 in
set_option maxHeartbeats 1000000 in
theorem lw_c26 {w : sg_W} {Q : sg_O → sg_H → Prop} {h : sg_H} (g : sg_G w) (nc : jk_C w) (hJ : jz w) {d mc ms : Nat} (hd : 30 ≤ d) {B M O S j k n : Nat} {xs : List Int} {A : fa_A} (jJ : jk_J w B M O S xs h A) (hj : 6 * j + 6 ≤ xs.length) (hl : xs.length ≤ 3072) (hk : k + 1030 ≤ mc) (hn : n + (48 + 0) ≤ ms) (K : ∀ (h' : sg_H) (k' n' : Nat) (A' : fa_A), jk_J w B M O S xs h' A' → k' ≤ k + 1030 → n' ≤ n + (48 + 0) → sg_R w mi_L_law d mc ms Q 2465 [(0, sg_r S), (1, sg_r B), (2, sg_r M), (3, sg_r O), (4, sg_i (6 * (j : Int)))] [] h' k' n') : sg_R w mi_L_law d mc ms Q 1245 [(0, sg_r S), (1, sg_r B), (2, sg_r M), (3, sg_r O), (4, sg_i (6 * (j : Int)))] [] h k n := by
  obtain ⟨p1, e1⟩ : ∃ p, xs.getD (6 * (j : Int) + 1).toNat 0 = p := ⟨_, rfl⟩
  obtain ⟨p2, e2⟩ : ∃ p, xs.getD (6 * (j : Int) + 2).toNat 0 = p := ⟨_, rfl⟩
  obtain ⟨p3, e3⟩ : ∃ p, xs.getD (6 * (j : Int) + 3).toNat 0 = p := ⟨_, rfl⟩
  obtain ⟨p4, e4⟩ : ∃ p, xs.getD (6 * (j : Int) + 4).toNat 0 = p := ⟨_, rfl⟩
  obtain ⟨p5, e5⟩ : ∃ p, xs.getD (6 * (j : Int) + 5).toNat 0 = p := ⟨_, rfl⟩
  refine sg_aload_n (pc := 1245) (j := 1) dL_law_1245 rfl rfl ?_
  refine sg_aload_n (pc := 1246) (j := 0) dL_law_1246 rfl rfl ?_
  refine sg_iload (pc := 1247) dL_law_1247 rfl ?_
  refine sg_iconst (pc := 1249) (z := 1) dL_law_1249 (by decide) ?_
  first | refine sg_iaddB (pc := 1250) dL_law_1250 (by omega) (by omega) ?_ | refine sg_iadd (pc := 1250) dL_law_1250 ?_
  refine sg_iald (pc := 1251) dL_law_1251 jJ.1.2.2.2.2.2.2.2.2.2 rfl (by omega) (jk_x (by omega) (by omega)) ?_
  try rw [e1]
  try rw [e2]
  try rw [e3]
  try rw [e4]
  try rw [e5]
  refine sg_aload_n (pc := 1252) (j := 0) dL_law_1252 rfl rfl ?_
  refine sg_iload (pc := 1253) dL_law_1253 rfl ?_
  refine sg_iconst (pc := 1255) (z := 2) dL_law_1255 (by decide) ?_
  first | refine sg_iaddB (pc := 1256) dL_law_1256 (by omega) (by omega) ?_ | refine sg_iadd (pc := 1256) dL_law_1256 ?_
  refine sg_iald (pc := 1257) dL_law_1257 jJ.1.2.2.2.2.2.2.2.2.2 rfl (by omega) (jk_x (by omega) (by omega)) ?_
  try rw [e1]
  try rw [e2]
  try rw [e3]
  try rw [e4]
  try rw [e5]
  refine sg_if_eq (pc := 1258) (tgt := 1265) dL_law_1258 (by decide) (fun c1258 => ?_) (fun c1258 => ?_)
  · refine sg_iconst (pc := 1265) (z := 0) dL_law_1265 (by decide) ?_
    refine sg_aload_n (pc := 1266) (j := 3) dL_law_1266 rfl rfl ?_
    refine st_cS4 (pc := 1267) (d' := d - 1) (mc' := 8) (ms' := 48) g dL_law_1267 cb_L_value cw_L_value ml_L_278 ms_L_value (Nat.le_of_ble_eq_true rfl) (by first | exact jl_d0 hd rfl | omega) (by first | exact Nat.le_of_ble_eq_true rfl | omega) (by first | exact Nat.le_of_ble_eq_true rfl | omega) ?_
    refine s_L_value g nc (by omega) jJ.1 (fun v1 h1 I1 X1 F1 k1 o1 => sg_K1 ?_)
    refine sg_istore (pc := 1270) dL_law_1270 (by decide) ?_
    refine sg_aload_n (pc := 1272) (j := 2) dL_law_1272 rfl rfl ?_
    refine sg_aload_n (pc := 1273) (j := 0) dL_law_1273 rfl rfl ?_
    refine sg_iload (pc := 1274) dL_law_1274 rfl ?_
    refine sg_iconst (pc := 1276) (z := 1) dL_law_1276 (by decide) ?_
    first | refine sg_iaddB (pc := 1277) dL_law_1277 (by omega) (by omega) ?_ | refine sg_iadd (pc := 1277) dL_law_1277 ?_
    refine sg_iald (pc := 1278) dL_law_1278 I1.2.2.2.2.2.2.2.2.2 rfl (by omega) (jk_x (by omega) (by omega)) ?_
    try rw [e1]
    try rw [e2]
    try rw [e3]
    try rw [e4]
    try rw [e5]
    refine sg_aload_n (pc := 1279) (j := 0) dL_law_1279 rfl rfl ?_
    refine sg_iload (pc := 1280) dL_law_1280 rfl ?_
    refine sg_iconst (pc := 1282) (z := 2) dL_law_1282 (by decide) ?_
    first | refine sg_iaddB (pc := 1283) dL_law_1283 (by omega) (by omega) ?_ | refine sg_iadd (pc := 1283) dL_law_1283 ?_
    refine sg_iald (pc := 1284) dL_law_1284 I1.2.2.2.2.2.2.2.2.2 rfl (by omega) (jk_x (by omega) (by omega)) ?_
    try rw [e1]
    try rw [e2]
    try rw [e3]
    try rw [e4]
    try rw [e5]
    refine sg_if_eq (pc := 1285) (tgt := 1292) dL_law_1285 (by decide) (fun c1285 => ?_) (fun c1285 => absurd c1258 c1285)
    refine sg_iconst (pc := 1292) (z := 0) dL_law_1292 (by decide) ?_
    refine st_as (fun H r => jk_tgR (B := B) r) ?_
    have m2 := jk_Im I1
    have ab0 := jk_Jt jJ I1 X1
    refine sg_cE2 (pc := 1293) (d' := d - 1) (mc' := 0) (ms' := 0) 8 g dL_law_1293 cb_X7_value ml_L_280 mn_X7_value rfl mv_X7_value (Nat.le_of_ble_eq_true rfl) (md_oc m2) (Nat.le_of_ble_eq_true rfl) (by first | exact jl_d0 hd rfl | omega) (by first | exact Nat.le_of_ble_eq_true rfl | omega) (by first | exact Nat.le_of_ble_eq_true rfl | omega) ?_
    refine s_X7_value g (by first | exact jl_d1 hd rfl | omega) m2 (fun v2 h2 c2_0 c2_1 y2 => sg_K1 ?_)
    refine st_as (fun H r => jk_unR I1.1 r) ?_
    have J2 : jk_J w B M O S xs (jk_unt B h2) A := jk_JM I1 (md_YW y2) (cf_XF jJ.2.1 F1) (y2.2.2.trans ab0) jJ.2.2.2
    have y2 := md_YW y2
    have I2 := J2.1
    refine sg_istore (pc := 1296) dL_law_1296 (by decide) ?_
    refine sg_goto (pc := 1298) (tgt := 2465) dL_law_1298 (by decide) ?_
    refine sg_lsub (lv' := [(0, _), (1, _), (2, _), (3, _), (4, _)]) ⟨rfl, rfl, rfl, rfl, rfl, trivial⟩ ?_
    exact K _ _ _ _ J2 (by omega) (by omega)
  · refine sg_iconst (pc := 1261) (z := 1) dL_law_1261 (by decide) ?_
    refine sg_goto (pc := 1262) (tgt := 1266) dL_law_1262 (by decide) ?_
    refine sg_aload_n (pc := 1266) (j := 3) dL_law_1266 rfl rfl ?_
    refine st_cS4 (pc := 1267) (d' := d - 1) (mc' := 8) (ms' := 48) g dL_law_1267 cb_L_value cw_L_value ml_L_278 ms_L_value (Nat.le_of_ble_eq_true rfl) (by first | exact jl_d0 hd rfl | omega) (by first | exact Nat.le_of_ble_eq_true rfl | omega) (by first | exact Nat.le_of_ble_eq_true rfl | omega) ?_
    refine s_L_value g nc (by omega) jJ.1 (fun v1 h1 I1 X1 F1 k1 o1 => sg_K1 ?_)
    refine sg_istore (pc := 1270) dL_law_1270 (by decide) ?_
    refine sg_aload_n (pc := 1272) (j := 2) dL_law_1272 rfl rfl ?_
    refine sg_aload_n (pc := 1273) (j := 0) dL_law_1273 rfl rfl ?_
    refine sg_iload (pc := 1274) dL_law_1274 rfl ?_
    refine sg_iconst (pc := 1276) (z := 1) dL_law_1276 (by decide) ?_
    first | refine sg_iaddB (pc := 1277) dL_law_1277 (by omega) (by omega) ?_ | refine sg_iadd (pc := 1277) dL_law_1277 ?_
    refine sg_iald (pc := 1278) dL_law_1278 I1.2.2.2.2.2.2.2.2.2 rfl (by omega) (jk_x (by omega) (by omega)) ?_
    try rw [e1]
    try rw [e2]
    try rw [e3]
    try rw [e4]
    try rw [e5]
    refine sg_aload_n (pc := 1279) (j := 0) dL_law_1279 rfl rfl ?_
    refine sg_iload (pc := 1280) dL_law_1280 rfl ?_
    refine sg_iconst (pc := 1282) (z := 2) dL_law_1282 (by decide) ?_
    first | refine sg_iaddB (pc := 1283) dL_law_1283 (by omega) (by omega) ?_ | refine sg_iadd (pc := 1283) dL_law_1283 ?_
    refine sg_iald (pc := 1284) dL_law_1284 I1.2.2.2.2.2.2.2.2.2 rfl (by omega) (jk_x (by omega) (by omega)) ?_
    try rw [e1]
    try rw [e2]
    try rw [e3]
    try rw [e4]
    try rw [e5]
    refine sg_if_eq (pc := 1285) (tgt := 1292) dL_law_1285 (by decide) (fun c1285 => absurd c1285 c1258) (fun c1285 => ?_)
    refine sg_iconst (pc := 1288) (z := 1) dL_law_1288 (by decide) ?_
    refine sg_goto (pc := 1289) (tgt := 1293) dL_law_1289 (by decide) ?_
    refine st_as (fun H r => jk_tgR (B := B) r) ?_
    have m2 := jk_Im I1
    have ab0 := jk_Jt jJ I1 X1
    refine sg_cE2 (pc := 1293) (d' := d - 1) (mc' := 0) (ms' := 0) 8 g dL_law_1293 cb_X7_value ml_L_280 mn_X7_value rfl mv_X7_value (Nat.le_of_ble_eq_true rfl) (md_oc m2) (Nat.le_of_ble_eq_true rfl) (by first | exact jl_d0 hd rfl | omega) (by first | exact Nat.le_of_ble_eq_true rfl | omega) (by first | exact Nat.le_of_ble_eq_true rfl | omega) ?_
    refine s_X7_value g (by first | exact jl_d1 hd rfl | omega) m2 (fun v2 h2 c2_0 c2_1 y2 => sg_K1 ?_)
    refine st_as (fun H r => jk_unR I1.1 r) ?_
    have J2 : jk_J w B M O S xs (jk_unt B h2) A := jk_JM I1 (md_YW y2) (cf_XF jJ.2.1 F1) (y2.2.2.trans ab0) jJ.2.2.2
    have y2 := md_YW y2
    have I2 := J2.1
    refine sg_istore (pc := 1296) dL_law_1296 (by decide) ?_
    refine sg_goto (pc := 1298) (tgt := 2465) dL_law_1298 (by decide) ?_
    refine sg_lsub (lv' := [(0, _), (1, _), (2, _), (3, _), (4, _)]) ⟨rfl, rfl, rfl, rfl, rfl, trivial⟩ ?_
    exact K _ _ _ _ J2 (by omega) (by omega)

set_option maxRecDepth 100000 in
set_option maxHeartbeats 1000000 in
theorem lw_c27 {w : sg_W} {Q : sg_O → sg_H → Prop} {h : sg_H} (g : sg_G w) (nc : jk_C w) (hJ : jz w) {d mc ms : Nat} (hd : 30 ≤ d) {B M O S j k n : Nat} {xs : List Int} {A : fa_A} (jJ : jk_J w B M O S xs h A) (hj : 6 * j + 6 ≤ xs.length) (hl : xs.length ≤ 3072) (hk : k + 1030 ≤ mc) (hn : n + (48 + 0) ≤ ms) (K : ∀ (h' : sg_H) (k' n' : Nat) (A' : fa_A), jk_J w B M O S xs h' A' → k' ≤ k + 1030 → n' ≤ n + (48 + 0) → sg_R w mi_L_law d mc ms Q 2465 [(0, sg_r S), (1, sg_r B), (2, sg_r M), (3, sg_r O), (4, sg_i (6 * (j : Int)))] [] h' k' n') : sg_R w mi_L_law d mc ms Q 1301 [(0, sg_r S), (1, sg_r B), (2, sg_r M), (3, sg_r O), (4, sg_i (6 * (j : Int)))] [] h k n := by
  obtain ⟨p1, e1⟩ : ∃ p, xs.getD (6 * (j : Int) + 1).toNat 0 = p := ⟨_, rfl⟩
  obtain ⟨p2, e2⟩ : ∃ p, xs.getD (6 * (j : Int) + 2).toNat 0 = p := ⟨_, rfl⟩
  obtain ⟨p3, e3⟩ : ∃ p, xs.getD (6 * (j : Int) + 3).toNat 0 = p := ⟨_, rfl⟩
  obtain ⟨p4, e4⟩ : ∃ p, xs.getD (6 * (j : Int) + 4).toNat 0 = p := ⟨_, rfl⟩
  obtain ⟨p5, e5⟩ : ∃ p, xs.getD (6 * (j : Int) + 5).toNat 0 = p := ⟨_, rfl⟩
  refine sg_aload_n (pc := 1301) (j := 1) dL_law_1301 rfl rfl ?_
  refine sg_aload_n (pc := 1302) (j := 0) dL_law_1302 rfl rfl ?_
  refine sg_iload (pc := 1303) dL_law_1303 rfl ?_
  refine sg_iconst (pc := 1305) (z := 1) dL_law_1305 (by decide) ?_
  first | refine sg_iaddB (pc := 1306) dL_law_1306 (by omega) (by omega) ?_ | refine sg_iadd (pc := 1306) dL_law_1306 ?_
  refine sg_iald (pc := 1307) dL_law_1307 jJ.1.2.2.2.2.2.2.2.2.2 rfl (by omega) (jk_x (by omega) (by omega)) ?_
  try rw [e1]
  try rw [e2]
  try rw [e3]
  try rw [e4]
  try rw [e5]
  refine sg_aload_n (pc := 1308) (j := 0) dL_law_1308 rfl rfl ?_
  refine sg_iload (pc := 1309) dL_law_1309 rfl ?_
  refine sg_iconst (pc := 1311) (z := 2) dL_law_1311 (by decide) ?_
  first | refine sg_iaddB (pc := 1312) dL_law_1312 (by omega) (by omega) ?_ | refine sg_iadd (pc := 1312) dL_law_1312 ?_
  refine sg_iald (pc := 1313) dL_law_1313 jJ.1.2.2.2.2.2.2.2.2.2 rfl (by omega) (jk_x (by omega) (by omega)) ?_
  try rw [e1]
  try rw [e2]
  try rw [e3]
  try rw [e4]
  try rw [e5]
  refine sg_aload_n (pc := 1314) (j := 0) dL_law_1314 rfl rfl ?_
  refine sg_iload (pc := 1315) dL_law_1315 rfl ?_
  refine sg_iconst (pc := 1317) (z := 3) dL_law_1317 (by decide) ?_
  first | refine sg_iaddB (pc := 1318) dL_law_1318 (by omega) (by omega) ?_ | refine sg_iadd (pc := 1318) dL_law_1318 ?_
  refine sg_iald (pc := 1319) dL_law_1319 jJ.1.2.2.2.2.2.2.2.2.2 rfl (by omega) (jk_x (by omega) (by omega)) ?_
  try rw [e1]
  try rw [e2]
  try rw [e3]
  try rw [e4]
  try rw [e5]
  refine sg_if_eq (pc := 1320) (tgt := 1327) dL_law_1320 (by decide) (fun c1320 => ?_) (fun c1320 => ?_)
  · refine sg_iconst (pc := 1327) (z := 0) dL_law_1327 (by decide) ?_
    refine sg_aload_n (pc := 1328) (j := 3) dL_law_1328 rfl rfl ?_
    refine st_cS5 (pc := 1329) (d' := d - 1) (mc' := 8) (ms' := 48) g dL_law_1329 cb_L_number cw_L_number ml_L_281 ms_L_number (Nat.le_of_ble_eq_true rfl) (by first | exact jl_d0 hd rfl | omega) (by first | exact Nat.le_of_ble_eq_true rfl | omega) (by first | exact Nat.le_of_ble_eq_true rfl | omega) ?_
    refine s_L_number g nc (by omega) jJ.1 (fun v1 h1 I1 X1 F1 k1 o1 => sg_K1 ?_)
    refine sg_istore (pc := 1332) dL_law_1332 (by decide) ?_
    refine sg_aload_n (pc := 1334) (j := 2) dL_law_1334 rfl rfl ?_
    refine sg_aload_n (pc := 1335) (j := 0) dL_law_1335 rfl rfl ?_
    refine sg_iload (pc := 1336) dL_law_1336 rfl ?_
    refine sg_iconst (pc := 1338) (z := 1) dL_law_1338 (by decide) ?_
    first | refine sg_iaddB (pc := 1339) dL_law_1339 (by omega) (by omega) ?_ | refine sg_iadd (pc := 1339) dL_law_1339 ?_
    refine sg_iald (pc := 1340) dL_law_1340 I1.2.2.2.2.2.2.2.2.2 rfl (by omega) (jk_x (by omega) (by omega)) ?_
    try rw [e1]
    try rw [e2]
    try rw [e3]
    try rw [e4]
    try rw [e5]
    refine sg_aload_n (pc := 1341) (j := 0) dL_law_1341 rfl rfl ?_
    refine sg_iload (pc := 1342) dL_law_1342 rfl ?_
    refine sg_iconst (pc := 1344) (z := 2) dL_law_1344 (by decide) ?_
    first | refine sg_iaddB (pc := 1345) dL_law_1345 (by omega) (by omega) ?_ | refine sg_iadd (pc := 1345) dL_law_1345 ?_
    refine sg_iald (pc := 1346) dL_law_1346 I1.2.2.2.2.2.2.2.2.2 rfl (by omega) (jk_x (by omega) (by omega)) ?_
    try rw [e1]
    try rw [e2]
    try rw [e3]
    try rw [e4]
    try rw [e5]
    refine sg_aload_n (pc := 1347) (j := 0) dL_law_1347 rfl rfl ?_
    refine sg_iload (pc := 1348) dL_law_1348 rfl ?_
    refine sg_iconst (pc := 1350) (z := 3) dL_law_1350 (by decide) ?_
    first | refine sg_iaddB (pc := 1351) dL_law_1351 (by omega) (by omega) ?_ | refine sg_iadd (pc := 1351) dL_law_1351 ?_
    refine sg_iald (pc := 1352) dL_law_1352 I1.2.2.2.2.2.2.2.2.2 rfl (by omega) (jk_x (by omega) (by omega)) ?_
    try rw [e1]
    try rw [e2]
    try rw [e3]
    try rw [e4]
    try rw [e5]
    refine sg_if_eq (pc := 1353) (tgt := 1360) dL_law_1353 (by decide) (fun c1353 => ?_) (fun c1353 => absurd c1320 c1353)
    refine sg_iconst (pc := 1360) (z := 0) dL_law_1360 (by decide) ?_
    refine st_as (fun H r => jk_tgR (B := B) r) ?_
    have m2 := jk_Im I1
    have ab0 := jk_Jt jJ I1 X1
    refine sg_cE3 (pc := 1361) (d' := d - 1) (mc' := 0) (ms' := 0) 8 g dL_law_1361 cb_X7_number ml_L_283 mn_X7_number rfl mv_X7_number (Nat.le_of_ble_eq_true rfl) (md_oc m2) (Nat.le_of_ble_eq_true rfl) (by first | exact jl_d0 hd rfl | omega) (by first | exact Nat.le_of_ble_eq_true rfl | omega) (by first | exact Nat.le_of_ble_eq_true rfl | omega) ?_
    refine s_X7_number g (by first | exact jl_d1 hd rfl | omega) m2 (fun v2 h2 c2_0 c2_1 y2 => sg_K1 ?_)
    refine st_as (fun H r => jk_unR I1.1 r) ?_
    have J2 : jk_J w B M O S xs (jk_unt B h2) A := jk_JM I1 (md_YW y2) (cf_XF jJ.2.1 F1) (y2.2.2.trans ab0) jJ.2.2.2
    have y2 := md_YW y2
    have I2 := J2.1
    refine sg_istore (pc := 1364) dL_law_1364 (by decide) ?_
    refine sg_goto (pc := 1366) (tgt := 2465) dL_law_1366 (by decide) ?_
    refine sg_lsub (lv' := [(0, _), (1, _), (2, _), (3, _), (4, _)]) ⟨rfl, rfl, rfl, rfl, rfl, trivial⟩ ?_
    exact K _ _ _ _ J2 (by omega) (by omega)
  · refine sg_iconst (pc := 1323) (z := 1) dL_law_1323 (by decide) ?_
    refine sg_goto (pc := 1324) (tgt := 1328) dL_law_1324 (by decide) ?_
    refine sg_aload_n (pc := 1328) (j := 3) dL_law_1328 rfl rfl ?_
    refine st_cS5 (pc := 1329) (d' := d - 1) (mc' := 8) (ms' := 48) g dL_law_1329 cb_L_number cw_L_number ml_L_281 ms_L_number (Nat.le_of_ble_eq_true rfl) (by first | exact jl_d0 hd rfl | omega) (by first | exact Nat.le_of_ble_eq_true rfl | omega) (by first | exact Nat.le_of_ble_eq_true rfl | omega) ?_
    refine s_L_number g nc (by omega) jJ.1 (fun v1 h1 I1 X1 F1 k1 o1 => sg_K1 ?_)
    refine sg_istore (pc := 1332) dL_law_1332 (by decide) ?_
    refine sg_aload_n (pc := 1334) (j := 2) dL_law_1334 rfl rfl ?_
    refine sg_aload_n (pc := 1335) (j := 0) dL_law_1335 rfl rfl ?_
    refine sg_iload (pc := 1336) dL_law_1336 rfl ?_
    refine sg_iconst (pc := 1338) (z := 1) dL_law_1338 (by decide) ?_
    first | refine sg_iaddB (pc := 1339) dL_law_1339 (by omega) (by omega) ?_ | refine sg_iadd (pc := 1339) dL_law_1339 ?_
    refine sg_iald (pc := 1340) dL_law_1340 I1.2.2.2.2.2.2.2.2.2 rfl (by omega) (jk_x (by omega) (by omega)) ?_
    try rw [e1]
    try rw [e2]
    try rw [e3]
    try rw [e4]
    try rw [e5]
    refine sg_aload_n (pc := 1341) (j := 0) dL_law_1341 rfl rfl ?_
    refine sg_iload (pc := 1342) dL_law_1342 rfl ?_
    refine sg_iconst (pc := 1344) (z := 2) dL_law_1344 (by decide) ?_
    first | refine sg_iaddB (pc := 1345) dL_law_1345 (by omega) (by omega) ?_ | refine sg_iadd (pc := 1345) dL_law_1345 ?_
    refine sg_iald (pc := 1346) dL_law_1346 I1.2.2.2.2.2.2.2.2.2 rfl (by omega) (jk_x (by omega) (by omega)) ?_
    try rw [e1]
    try rw [e2]
    try rw [e3]
    try rw [e4]
    try rw [e5]
    refine sg_aload_n (pc := 1347) (j := 0) dL_law_1347 rfl rfl ?_
    refine sg_iload (pc := 1348) dL_law_1348 rfl ?_
    refine sg_iconst (pc := 1350) (z := 3) dL_law_1350 (by decide) ?_
    first | refine sg_iaddB (pc := 1351) dL_law_1351 (by omega) (by omega) ?_ | refine sg_iadd (pc := 1351) dL_law_1351 ?_
    refine sg_iald (pc := 1352) dL_law_1352 I1.2.2.2.2.2.2.2.2.2 rfl (by omega) (jk_x (by omega) (by omega)) ?_
    try rw [e1]
    try rw [e2]
    try rw [e3]
    try rw [e4]
    try rw [e5]
    refine sg_if_eq (pc := 1353) (tgt := 1360) dL_law_1353 (by decide) (fun c1353 => absurd c1353 c1320) (fun c1353 => ?_)
    refine sg_iconst (pc := 1356) (z := 1) dL_law_1356 (by decide) ?_
    refine sg_goto (pc := 1357) (tgt := 1361) dL_law_1357 (by decide) ?_
    refine st_as (fun H r => jk_tgR (B := B) r) ?_
    have m2 := jk_Im I1
    have ab0 := jk_Jt jJ I1 X1
    refine sg_cE3 (pc := 1361) (d' := d - 1) (mc' := 0) (ms' := 0) 8 g dL_law_1361 cb_X7_number ml_L_283 mn_X7_number rfl mv_X7_number (Nat.le_of_ble_eq_true rfl) (md_oc m2) (Nat.le_of_ble_eq_true rfl) (by first | exact jl_d0 hd rfl | omega) (by first | exact Nat.le_of_ble_eq_true rfl | omega) (by first | exact Nat.le_of_ble_eq_true rfl | omega) ?_
    refine s_X7_number g (by first | exact jl_d1 hd rfl | omega) m2 (fun v2 h2 c2_0 c2_1 y2 => sg_K1 ?_)
    refine st_as (fun H r => jk_unR I1.1 r) ?_
    have J2 : jk_J w B M O S xs (jk_unt B h2) A := jk_JM I1 (md_YW y2) (cf_XF jJ.2.1 F1) (y2.2.2.trans ab0) jJ.2.2.2
    have y2 := md_YW y2
    have I2 := J2.1
    refine sg_istore (pc := 1364) dL_law_1364 (by decide) ?_
    refine sg_goto (pc := 1366) (tgt := 2465) dL_law_1366 (by decide) ?_
    refine sg_lsub (lv' := [(0, _), (1, _), (2, _), (3, _), (4, _)]) ⟨rfl, rfl, rfl, rfl, rfl, trivial⟩ ?_
    exact K _ _ _ _ J2 (by omega) (by omega)

set_option maxRecDepth 100000 in
set_option maxHeartbeats 1000000 in
theorem lw_c28 {w : sg_W} {Q : sg_O → sg_H → Prop} {h : sg_H} (g : sg_G w) (nc : jk_C w) (hJ : jz w) {d mc ms : Nat} (hd : 30 ≤ d) {B M O S j k n : Nat} {xs : List Int} {A : fa_A} (jJ : jk_J w B M O S xs h A) (hj : 6 * j + 6 ≤ xs.length) (hl : xs.length ≤ 3072) (hk : k + 1030 ≤ mc) (hn : n + (0 + 0) ≤ ms) (K : ∀ (h' : sg_H) (k' n' : Nat) (A' : fa_A), jk_J w B M O S xs h' A' → k' ≤ k + 1030 → n' ≤ n + (0 + 0) → sg_R w mi_L_law d mc ms Q 2465 [(0, sg_r S), (1, sg_r B), (2, sg_r M), (3, sg_r O), (4, sg_i (6 * (j : Int)))] [] h' k' n') : sg_R w mi_L_law d mc ms Q 1369 [(0, sg_r S), (1, sg_r B), (2, sg_r M), (3, sg_r O), (4, sg_i (6 * (j : Int)))] [] h k n := by
  obtain ⟨p1, e1⟩ : ∃ p, xs.getD (6 * (j : Int) + 1).toNat 0 = p := ⟨_, rfl⟩
  obtain ⟨p2, e2⟩ : ∃ p, xs.getD (6 * (j : Int) + 2).toNat 0 = p := ⟨_, rfl⟩
  obtain ⟨p3, e3⟩ : ∃ p, xs.getD (6 * (j : Int) + 3).toNat 0 = p := ⟨_, rfl⟩
  obtain ⟨p4, e4⟩ : ∃ p, xs.getD (6 * (j : Int) + 4).toNat 0 = p := ⟨_, rfl⟩
  obtain ⟨p5, e5⟩ : ∃ p, xs.getD (6 * (j : Int) + 5).toNat 0 = p := ⟨_, rfl⟩
  refine sg_aload_n (pc := 1369) (j := 1) dL_law_1369 rfl rfl ?_
  refine sg_aload_n (pc := 1370) (j := 0) dL_law_1370 rfl rfl ?_
  refine sg_iload (pc := 1371) dL_law_1371 rfl ?_
  refine sg_iconst (pc := 1373) (z := 1) dL_law_1373 (by decide) ?_
  first | refine sg_iaddB (pc := 1374) dL_law_1374 (by omega) (by omega) ?_ | refine sg_iadd (pc := 1374) dL_law_1374 ?_
  refine sg_iald (pc := 1375) dL_law_1375 jJ.1.2.2.2.2.2.2.2.2.2 rfl (by omega) (jk_x (by omega) (by omega)) ?_
  try rw [e1]
  try rw [e2]
  try rw [e3]
  try rw [e4]
  try rw [e5]
  refine sg_aload_n (pc := 1376) (j := 0) dL_law_1376 rfl rfl ?_
  refine sg_iload (pc := 1377) dL_law_1377 rfl ?_
  refine sg_iconst (pc := 1379) (z := 2) dL_law_1379 (by decide) ?_
  first | refine sg_iaddB (pc := 1380) dL_law_1380 (by omega) (by omega) ?_ | refine sg_iadd (pc := 1380) dL_law_1380 ?_
  refine sg_iald (pc := 1381) dL_law_1381 jJ.1.2.2.2.2.2.2.2.2.2 rfl (by omega) (jk_x (by omega) (by omega)) ?_
  try rw [e1]
  try rw [e2]
  try rw [e3]
  try rw [e4]
  try rw [e5]
  refine sg_cE2 (pc := 1382) (d' := d - 1) (mc' := 0) (ms' := 0) 6 g dL_law_1382 cb_X5_digit ml_L_284 mn_X5_digit rfl mv_X5_digit (Nat.le_of_ble_eq_true rfl) (ck_oc jJ.1.2.2.1) (Nat.le_of_ble_eq_true rfl) (by first | exact jl_d0 hd rfl | omega) (by first | exact Nat.le_of_ble_eq_true rfl | omega) (by first | exact Nat.le_of_ble_eq_true rfl | omega) ?_
  refine s_X5_digit (B := B) g (by first | exact jl_d1 hd rfl | omega) (fun v1 c1 => sg_K1 ?_)
  have I1 := jJ.1
  have X1 : jk_X (jk_cut B h) (jk_cut B h) := jk_X0
  have F1 : jk_F B h h := jk_F0
  refine sg_pop (pc := 1385) dL_law_1385 rfl ?_
  refine sg_aload_n (pc := 1386) (j := 2) dL_law_1386 rfl rfl ?_
  refine sg_aload_n (pc := 1387) (j := 0) dL_law_1387 rfl rfl ?_
  refine sg_iload (pc := 1388) dL_law_1388 rfl ?_
  refine sg_iconst (pc := 1390) (z := 1) dL_law_1390 (by decide) ?_
  first | refine sg_iaddB (pc := 1391) dL_law_1391 (by omega) (by omega) ?_ | refine sg_iadd (pc := 1391) dL_law_1391 ?_
  refine sg_iald (pc := 1392) dL_law_1392 I1.2.2.2.2.2.2.2.2.2 rfl (by omega) (jk_x (by omega) (by omega)) ?_
  try rw [e1]
  try rw [e2]
  try rw [e3]
  try rw [e4]
  try rw [e5]
  refine sg_aload_n (pc := 1393) (j := 0) dL_law_1393 rfl rfl ?_
  refine sg_iload (pc := 1394) dL_law_1394 rfl ?_
  refine sg_iconst (pc := 1396) (z := 2) dL_law_1396 (by decide) ?_
  first | refine sg_iaddB (pc := 1397) dL_law_1397 (by omega) (by omega) ?_ | refine sg_iadd (pc := 1397) dL_law_1397 ?_
  refine sg_iald (pc := 1398) dL_law_1398 I1.2.2.2.2.2.2.2.2.2 rfl (by omega) (jk_x (by omega) (by omega)) ?_
  try rw [e1]
  try rw [e2]
  try rw [e3]
  try rw [e4]
  try rw [e5]
  refine st_as (fun H r => jk_tgR (B := B) r) ?_
  have m2 := jk_Im I1
  have ab0 := jk_Jt jJ I1 X1
  refine sg_cE2 (pc := 1399) (d' := d - 1) (mc' := 0) (ms' := 0) 8 g dL_law_1399 cb_X7_digit ml_L_287 mn_X7_digit rfl mv_X7_digit (Nat.le_of_ble_eq_true rfl) (md_oc m2) (Nat.le_of_ble_eq_true rfl) (by first | exact jl_d0 hd rfl | omega) (by first | exact Nat.le_of_ble_eq_true rfl | omega) (by first | exact Nat.le_of_ble_eq_true rfl | omega) ?_
  refine s_X7_digit g (by first | exact jl_d1 hd rfl | omega) m2 (fun v2 h2 c2_0 y2 => sg_K1 ?_)
  refine st_as (fun H r => jk_unR I1.1 r) ?_
  have J2 : jk_J w B M O S xs (jk_unt B h2) A := jk_JM I1 (md_YW y2) (cf_XF jJ.2.1 F1) (y2.2.2.trans ab0) jJ.2.2.2
  have y2 := md_YW y2
  have I2 := J2.1
  refine sg_pop (pc := 1402) dL_law_1402 rfl ?_
  refine sg_goto (pc := 1403) (tgt := 2465) dL_law_1403 (by decide) ?_
  refine sg_lsub (lv' := [(0, _), (1, _), (2, _), (3, _), (4, _)]) ⟨rfl, rfl, rfl, rfl, rfl, trivial⟩ ?_
  exact K _ _ _ _ J2 (by omega) (by omega)

set_option maxRecDepth 100000 in
set_option maxHeartbeats 1000000 in
theorem lw_c29 {w : sg_W} {Q : sg_O → sg_H → Prop} {h : sg_H} (g : sg_G w) (nc : jk_C w) (hJ : jz w) {d mc ms : Nat} (hd : 30 ≤ d) {B M O S j k n : Nat} {xs : List Int} {A : fa_A} (jJ : jk_J w B M O S xs h A) (hj : 6 * j + 6 ≤ xs.length) (hl : xs.length ≤ 3072) (hk : k + 1030 ≤ mc) (hn : n + (48 + 0) ≤ ms) (K : ∀ (h' : sg_H) (k' n' : Nat) (A' : fa_A), jk_J w B M O S xs h' A' → k' ≤ k + 1030 → n' ≤ n + (48 + 0) → sg_R w mi_L_law d mc ms Q 2465 [(0, sg_r S), (1, sg_r B), (2, sg_r M), (3, sg_r O), (4, sg_i (6 * (j : Int)))] [] h' k' n') : sg_R w mi_L_law d mc ms Q 1406 [(0, sg_r S), (1, sg_r B), (2, sg_r M), (3, sg_r O), (4, sg_i (6 * (j : Int)))] [] h k n := by
  obtain ⟨p1, e1⟩ : ∃ p, xs.getD (6 * (j : Int) + 1).toNat 0 = p := ⟨_, rfl⟩
  obtain ⟨p2, e2⟩ : ∃ p, xs.getD (6 * (j : Int) + 2).toNat 0 = p := ⟨_, rfl⟩
  obtain ⟨p3, e3⟩ : ∃ p, xs.getD (6 * (j : Int) + 3).toNat 0 = p := ⟨_, rfl⟩
  obtain ⟨p4, e4⟩ : ∃ p, xs.getD (6 * (j : Int) + 4).toNat 0 = p := ⟨_, rfl⟩
  obtain ⟨p5, e5⟩ : ∃ p, xs.getD (6 * (j : Int) + 5).toNat 0 = p := ⟨_, rfl⟩
  refine sg_aload_n (pc := 1406) (j := 1) dL_law_1406 rfl rfl ?_
  refine sg_aload_n (pc := 1407) (j := 0) dL_law_1407 rfl rfl ?_
  refine sg_iload (pc := 1408) dL_law_1408 rfl ?_
  refine sg_iconst (pc := 1410) (z := 1) dL_law_1410 (by decide) ?_
  first | refine sg_iaddB (pc := 1411) dL_law_1411 (by omega) (by omega) ?_ | refine sg_iadd (pc := 1411) dL_law_1411 ?_
  refine sg_iald (pc := 1412) dL_law_1412 jJ.1.2.2.2.2.2.2.2.2.2 rfl (by omega) (jk_x (by omega) (by omega)) ?_
  try rw [e1]
  try rw [e2]
  try rw [e3]
  try rw [e4]
  try rw [e5]
  refine sg_aload_n (pc := 1413) (j := 3) dL_law_1413 rfl rfl ?_
  obtain ⟨L, hL⟩ : ∃ X, fa_L A p1.toNat = X := ⟨_, rfl⟩
  refine st_cS3 (pc := 1414) (d' := d - 1) (mc' := 8) (ms' := 48) g dL_law_1414 cb_L_length cw_L_length ml_L_288 ms_L_length (Nat.le_of_ble_eq_true rfl) (by first | exact jl_d0 hd rfl | omega) (by first | exact Nat.le_of_ble_eq_true rfl | omega) (by first | exact Nat.le_of_ble_eq_true rfl | omega) ?_
  refine f_L_length g nc (by omega) jJ.1 jJ.2.1 jJ.2.2.2 hL (fun v1 h1 I1 X1 k0 k1 F1 r1 => sg_K1 ?_)
  refine sg_istore (pc := 1417) dL_law_1417 (by decide) ?_
  refine sg_aload_n (pc := 1419) (j := 2) dL_law_1419 rfl rfl ?_
  refine sg_aload_n (pc := 1420) (j := 0) dL_law_1420 rfl rfl ?_
  refine sg_iload (pc := 1421) dL_law_1421 rfl ?_
  refine sg_iconst (pc := 1423) (z := 1) dL_law_1423 (by decide) ?_
  first | refine sg_iaddB (pc := 1424) dL_law_1424 (by omega) (by omega) ?_ | refine sg_iadd (pc := 1424) dL_law_1424 ?_
  refine sg_iald (pc := 1425) dL_law_1425 I1.2.2.2.2.2.2.2.2.2 rfl (by omega) (jk_x (by omega) (by omega)) ?_
  try rw [e1]
  try rw [e2]
  try rw [e3]
  try rw [e4]
  try rw [e5]
  refine st_as (fun H r => jk_tgR (B := B) r) ?_
  have m2 := jk_Im I1
  have ab0 := jk_Jt jJ I1 X1
  refine sg_cE1 (pc := 1426) (d' := d - 1) (mc' := 0) (ms' := 0) 8 g dL_law_1426 cb_X7_length ml_L_290 mn_X7_length rfl mv_X7_length (Nat.le_of_ble_eq_true rfl) (md_oc m2) (Nat.le_of_ble_eq_true rfl) (by first | exact jl_d0 hd rfl | omega) (by first | exact Nat.le_of_ble_eq_true rfl | omega) (by first | exact Nat.le_of_ble_eq_true rfl | omega) ?_
  refine s_X7_length g (by first | exact jl_d1 hd rfl | omega) m2 (fun v2 h2  y2 => sg_K1 ?_)
  refine st_as (fun H r => jk_unR I1.1 r) ?_
  have J2 : jk_J w B M O S xs (jk_unt B h2) A := jk_JM I1 (md_YW y2) (cf_XF jJ.2.1 F1) (y2.2.2.trans ab0) jJ.2.2.2
  have y2 := md_YW y2
  have I2 := J2.1
  refine sg_istore (pc := 1429) dL_law_1429 (by decide) ?_
  refine sg_goto (pc := 1431) (tgt := 2465) dL_law_1431 (by decide) ?_
  refine sg_lsub (lv' := [(0, _), (1, _), (2, _), (3, _), (4, _)]) ⟨rfl, rfl, rfl, rfl, rfl, trivial⟩ ?_
  exact K _ _ _ _ J2 (by omega) (by omega)

