set_option maxRecDepth 100000 in
theorem mv_X5_at : sg_ok (.selects RX5 yX5_at yX5_at) := ⟨ts_4_48.1.1.2.1.1, rfl⟩
set_option maxRecDepth 100000 in
theorem ci_X5_numberAt : sg_ok (.code yX5_numberAt cX5_numberAt 2 (some .int)) := ⟨ts_4_48.1.2.1.1.1, rfl⟩
theorem cb_X5_numberAt : sg_cb mi_X5_numberAt 2 := ⟨ci_X5_numberAt, iz_0, nh_0, pd_12, Nat.le_of_ble_eq_true rfl⟩
set_option maxRecDepth 100000 in
theorem ms_X5_numberAt : sg_ok (.static yX5_numberAt) := ⟨ts_4_48.1.1.2.2.2, rfl⟩
set_option maxRecDepth 100000 in
theorem ms_L_count : sg_ok (.static yL_count) := ⟨ts_4_48.1.2.2.1.1, rfl⟩
set_option maxRecDepth 100000 in
theorem ms_L_first : sg_ok (.static yL_first) := ⟨ts_4_64.1.1.1.1.1, rfl⟩
set_option maxRecDepth 100000 in
theorem ci_X5_first : sg_ok (.code yX5_first cX5_first 6 (some .int)) := ⟨ts_4_64.1.1.2.1.2, rfl⟩
theorem cb_X5_first : sg_cb mi_X5_first 3 := ⟨ci_X5_first, iz_0, nh_0, pd_23, Nat.le_of_ble_eq_true rfl⟩
set_option maxRecDepth 100000 in
theorem mn_X5_first : sg_ok (.instanceMethod yX5_first) := ⟨ts_4_64.1.1.1.2.2, rfl⟩
set_option maxRecDepth 100000 in
theorem mv_X5_first : sg_ok (.selects RX5 yX5_first yX5_first) := ⟨ts_4_64.1.1.2.1.1, rfl⟩
