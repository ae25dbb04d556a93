set_option maxRecDepth 100000 in
theorem ci_X0_takeAway : sg_ok (.code yX0_takeAway cX0_takeAway 2 (none : Option Jvm.ClassFile.FieldType)) := ⟨ts_3_48.1.1.1.1.1, rfl⟩
theorem cb_X0_takeAway : sg_cb mi_X0_takeAway 1 := ⟨ci_X0_takeAway, iz_2, nh_2, pd_1, Nat.le_of_ble_eq_true rfl⟩
set_option maxRecDepth 100000 in
theorem mn_X0_takeAway : sg_ok (.instanceMethod yX0_takeAway) := ⟨ts_3_32.1.2.2.2.1, rfl⟩
set_option maxRecDepth 100000 in
theorem mv_X0_takeAway : sg_ok (.selects RX0 yX0_takeAway yX0_takeAway) := ⟨ts_3_32.1.2.2.2.2, rfl⟩
set_option maxRecDepth 100000 in
theorem ms_L_copy : sg_ok (.static yL_copy) := ⟨ts_3_48.1.1.1.2.1, rfl⟩
set_option maxRecDepth 100000 in
theorem ci_X5_copy : sg_ok (.code yX5_copy cX5_copy 6 (some .int)) := ⟨ts_3_48.1.1.2.2.2, rfl⟩
theorem cb_X5_copy : sg_cb mi_X5_copy 2 := ⟨ci_X5_copy, iz_0, nh_0, pd_3, Nat.le_of_ble_eq_true rfl⟩
set_option maxRecDepth 100000 in
theorem mn_X5_copy : sg_ok (.instanceMethod yX5_copy) := ⟨ts_3_48.1.1.2.1.2, rfl⟩
set_option maxRecDepth 100000 in
theorem mv_X5_copy : sg_ok (.selects RX5 yX5_copy yX5_copy) := ⟨ts_3_48.1.1.2.2.1, rfl⟩
set_option maxRecDepth 100000 in
theorem ms_L_raise : sg_ok (.static yL_raise) := ⟨ts_3_48.1.2.1.2.1, rfl⟩
