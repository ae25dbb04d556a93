set_option maxRecDepth 100000 in
theorem mv_X5_half : sg_ok (.selects RX5 yX5_half yX5_half) := ⟨ts_5_160.1.1.1.2.1, rfl⟩
set_option maxRecDepth 100000 in
theorem ms_L_code : sg_ok (.static yL_code) := ⟨ts_5_160.1.2.1.1.1, rfl⟩
set_option maxRecDepth 100000 in
theorem ci_X5_code : sg_ok (.code yX5_code cX5_code 3 (some .int)) := ⟨ts_5_160.1.2.2.1.2, rfl⟩
theorem cb_X5_code : sg_cb mi_X5_code 2 := ⟨ci_X5_code, iz_0, nh_0, pd_3, Nat.le_of_ble_eq_true rfl⟩
set_option maxRecDepth 100000 in
theorem mn_X5_code : sg_ok (.instanceMethod yX5_code) := ⟨ts_5_160.1.2.1.2.2, rfl⟩
set_option maxRecDepth 100000 in
theorem mv_X5_code : sg_ok (.selects RX5 yX5_code yX5_code) := ⟨ts_5_160.1.2.2.1.1, rfl⟩
set_option maxRecDepth 100000 in
theorem ms_L_ofUnit : sg_ok (.static yL_ofUnit) := ⟨ts_5_176.1.1.1.1.2, rfl⟩
set_option maxRecDepth 100000 in
theorem ms_L_compare : sg_ok (.static yL_compare) := ⟨ts_5_176.1.1.2.1.2, rfl⟩
set_option maxRecDepth 100000 in
theorem ci_X5_compare : sg_ok (.code yX5_compare cX5_compare 3 (some .int)) := ⟨ts_5_176.1.2.1.2.1, rfl⟩
theorem cb_X5_compare : sg_cb mi_X5_compare 2 := ⟨ci_X5_compare, iz_0, nh_0, pd_3, Nat.le_of_ble_eq_true rfl⟩
