theorem cb_X5_strip : sg_cb mi_X5_strip 1 := ⟨ci_X5_strip, iz_0, nh_0, pd_6, Nat.le_of_ble_eq_true rfl⟩
set_option maxRecDepth 100000 in
theorem mn_X5_strip : sg_ok (.instanceMethod yX5_strip) := ⟨ts_3_80.1.1.2.2.1, rfl⟩
set_option maxRecDepth 100000 in
theorem mv_X5_strip : sg_ok (.selects RX5 yX5_strip yX5_strip) := ⟨ts_3_80.1.1.2.2.2, rfl⟩
set_option maxRecDepth 100000 in
theorem ci_X0_narrow : sg_ok (.code yX0_narrow cX0_narrow 4 (none : Option Jvm.ClassFile.FieldType)) := ⟨ts_3_80.1.2.2.1.1, rfl⟩
theorem cb_X0_narrow : sg_cb mi_X0_narrow 2 := ⟨ci_X0_narrow, iz_2, nh_2, pd_21, Nat.le_of_ble_eq_true rfl⟩
set_option maxRecDepth 100000 in
theorem mn_X0_narrow : sg_ok (.instanceMethod yX0_narrow) := ⟨ts_3_80.1.2.1.2.1, rfl⟩
set_option maxRecDepth 100000 in
theorem mv_X0_narrow : sg_ok (.selects RX0 yX0_narrow yX0_narrow) := ⟨ts_3_80.1.2.1.2.2, rfl⟩
set_option maxRecDepth 100000 in
theorem ms_L_turn : sg_ok (.static yL_turn) := ⟨ts_3_80.1.2.2.2.1, rfl⟩
set_option maxRecDepth 100000 in
theorem ci_X5_turn : sg_ok (.code yX5_turn cX5_turn 3 (some .int)) := ⟨ts_3_96.1.1.1.2.2, rfl⟩
theorem cb_X5_turn : sg_cb mi_X5_turn 1 := ⟨ci_X5_turn, iz_0, nh_0, pd_6, Nat.le_of_ble_eq_true rfl⟩
set_option maxRecDepth 100000 in
theorem mn_X5_turn : sg_ok (.instanceMethod yX5_turn) := ⟨ts_3_96.1.1.1.1.2, rfl⟩
