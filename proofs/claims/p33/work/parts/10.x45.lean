set_option maxRecDepth 100000 in
theorem mv_X5_words : sg_ok (.selects RX5 yX5_words yX5_words) := ⟨ts_2_128.1.2.1.1.1, rfl⟩
set_option maxRecDepth 100000 in
theorem ci_X5_isWordBegin : sg_ok (.code yX5_isWordBegin cX5_isWordBegin 2 (some .boolean)) := ⟨ts_2_128.1.2.2.1.1, rfl⟩
theorem cb_X5_isWordBegin : sg_cb mi_X5_isWordBegin 2 := ⟨ci_X5_isWordBegin, iz_0, nh_0, pd_11, Nat.le_of_ble_eq_true rfl⟩
set_option maxRecDepth 100000 in
theorem ms_X5_isWordBegin : sg_ok (.static yX5_isWordBegin) := ⟨ts_2_128.1.2.1.2.2, rfl⟩
set_option maxRecDepth 100000 in
theorem ci_X5_order : sg_ok (.code yX5_order cX5_order 6 (some .int)) := ⟨ts_2_144.1.1.1.1.1, rfl⟩
theorem cb_X5_order : sg_cb mi_X5_order 2 := ⟨ci_X5_order, iz_0, nh_0, pd_3, Nat.le_of_ble_eq_true rfl⟩
set_option maxRecDepth 100000 in
theorem mn_X5_order : sg_ok (.instanceMethod yX5_order) := ⟨ts_2_128.1.2.2.2.1, rfl⟩
set_option maxRecDepth 100000 in
theorem mv_X5_order : sg_ok (.selects RX5 yX5_order yX5_order) := ⟨ts_2_128.1.2.2.2.2, rfl⟩
set_option maxRecDepth 100000 in
theorem ci_X5_ahead : sg_ok (.code yX5_ahead cX5_ahead 2 (some .int)) := ⟨ts_2_144.1.1.1.2.2, rfl⟩
theorem cb_X5_ahead : sg_cb mi_X5_ahead 2 := ⟨ci_X5_ahead, iz_0, nh_0, pd_3, Nat.le_of_ble_eq_true rfl⟩
set_option maxRecDepth 100000 in
theorem ms_X5_ahead : sg_ok (.static yX5_ahead) := ⟨ts_2_144.1.1.1.2.1, rfl⟩
