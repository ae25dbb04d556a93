set_option maxRecDepth 100000 in
theorem mv_X5_lower : sg_ok (.selects RX5 yX5_lower yX5_lower) := ⟨ts_4_16.1.2.1.1.1, rfl⟩
set_option maxRecDepth 100000 in
theorem ms_L_value : sg_ok (.static yL_value) := ⟨ts_4_16.1.2.1.2.2, rfl⟩
set_option maxRecDepth 100000 in
theorem ci_X5_value : sg_ok (.code yX5_value cX5_value 3 (some .int)) := ⟨ts_4_32.1.1.1.1.1, rfl⟩
theorem cb_X5_value : sg_cb mi_X5_value 2 := ⟨ci_X5_value, iz_0, nh_0, pd_25, Nat.le_of_ble_eq_true rfl⟩
set_option maxRecDepth 100000 in
theorem mn_X5_value : sg_ok (.instanceMethod yX5_value) := ⟨ts_4_16.1.2.2.2.1, rfl⟩
set_option maxRecDepth 100000 in
theorem mv_X5_value : sg_ok (.selects RX5 yX5_value yX5_value) := ⟨ts_4_16.1.2.2.2.2, rfl⟩
set_option maxRecDepth 100000 in
theorem ms_L_number : sg_ok (.static yL_number) := ⟨ts_4_32.1.1.1.2.1, rfl⟩
set_option maxRecDepth 100000 in
theorem ci_X5_number : sg_ok (.code yX5_number cX5_number 4 (some .int)) := ⟨ts_4_32.1.1.2.2.2, rfl⟩
theorem cb_X5_number : sg_cb mi_X5_number 3 := ⟨ci_X5_number, iz_0, nh_0, pd_22, Nat.le_of_ble_eq_true rfl⟩
set_option maxRecDepth 100000 in
theorem mn_X5_number : sg_ok (.instanceMethod yX5_number) := ⟨ts_4_32.1.1.2.1.2, rfl⟩
