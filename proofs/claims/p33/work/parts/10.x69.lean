set_option maxRecDepth 100000 in
theorem mv_X5_isWhite : sg_ok (.selects RX5 yX5_isWhite yX5_isWhite) := ⟨ts_3_224.1.2.2.1.1, rfl⟩
set_option maxRecDepth 100000 in
theorem ms_L_isGreat : sg_ok (.static yL_isGreat) := ⟨ts_3_224.1.2.2.2.2, rfl⟩
set_option maxRecDepth 100000 in
theorem ci_X5_isGreat : sg_ok (.code yX5_isGreat cX5_isGreat 2 (some .boolean)) := ⟨ts_4_0.1.1.2.1.1, rfl⟩
theorem cb_X5_isGreat : sg_cb mi_X5_isGreat 1 := ⟨ci_X5_isGreat, iz_0, nh_0, pd_4, Nat.le_of_ble_eq_true rfl⟩
set_option maxRecDepth 100000 in
theorem mn_X5_isGreat : sg_ok (.instanceMethod yX5_isGreat) := ⟨ts_4_0.1.1.1.2.1, rfl⟩
set_option maxRecDepth 100000 in
theorem mv_X5_isGreat : sg_ok (.selects RX5 yX5_isGreat yX5_isGreat) := ⟨ts_4_0.1.1.1.2.2, rfl⟩
set_option maxRecDepth 100000 in
theorem ms_L_kinds : sg_ok (.static yL_kinds) := ⟨ts_4_0.1.1.2.2.1, rfl⟩
set_option maxRecDepth 100000 in
theorem ci_X5_kinds : sg_ok (.code yX5_kinds cX5_kinds 2 (some .int)) := ⟨ts_4_0.1.2.1.2.2, rfl⟩
theorem cb_X5_kinds : sg_cb mi_X5_kinds 1 := ⟨ci_X5_kinds, iz_0, nh_0, pd_6, Nat.le_of_ble_eq_true rfl⟩
set_option maxRecDepth 100000 in
theorem mn_X5_kinds : sg_ok (.instanceMethod yX5_kinds) := ⟨ts_4_0.1.2.1.1.2, rfl⟩
