set_option maxRecDepth 100000 in
theorem mv_X5_number : sg_ok (.selects RX5 yX5_number yX5_number) := ⟨ts_4_32.1.1.2.2.1, rfl⟩
set_option maxRecDepth 100000 in
theorem ms_L_length : sg_ok (.static yL_length) := ⟨ts_4_32.1.2.1.1.2, rfl⟩
set_option maxRecDepth 100000 in
theorem ci_X5_length : sg_ok (.code yX5_length cX5_length 2 (some .int)) := ⟨ts_4_32.1.2.2.2.1, rfl⟩
theorem cb_X5_length : sg_cb mi_X5_length 1 := ⟨ci_X5_length, iz_0, nh_0, pd_6, Nat.le_of_ble_eq_true rfl⟩
set_option maxRecDepth 100000 in
theorem mn_X5_length : sg_ok (.instanceMethod yX5_length) := ⟨ts_4_32.1.2.2.1.1, rfl⟩
set_option maxRecDepth 100000 in
theorem mv_X5_length : sg_ok (.selects RX5 yX5_length yX5_length) := ⟨ts_4_32.1.2.2.1.2, rfl⟩
set_option maxRecDepth 100000 in
theorem ms_L_at : sg_ok (.static yL_at) := ⟨ts_4_48.1.1.1.1.1, rfl⟩
set_option maxRecDepth 100000 in
theorem ci_X5_at : sg_ok (.code yX5_at cX5_at 3 (some .int)) := ⟨ts_4_48.1.1.2.1.2, rfl⟩
theorem cb_X5_at : sg_cb mi_X5_at 2 := ⟨ci_X5_at, iz_0, nh_0, pd_3, Nat.le_of_ble_eq_true rfl⟩
set_option maxRecDepth 100000 in
theorem mn_X5_at : sg_ok (.instanceMethod yX5_at) := ⟨ts_4_48.1.1.1.2.2, rfl⟩
