set_option maxRecDepth 100000 in
theorem mv_X5_told : sg_ok (.selects RX5 yX5_told yX5_told) := ⟨ts_2_112.1.2.1.2.1, rfl⟩
set_option maxRecDepth 100000 in
theorem ci_X5_checkRadix : sg_ok (.code yX5_checkRadix cX5_checkRadix 1 (none : Option Jvm.ClassFile.FieldType)) := ⟨ts_2_112.1.2.2.2.1, rfl⟩
theorem cb_X5_checkRadix : sg_cb mi_X5_checkRadix 1 := ⟨ci_X5_checkRadix, iz_0, nh_0, pd_1, Nat.le_of_ble_eq_true rfl⟩
set_option maxRecDepth 100000 in
theorem ms_X5_checkRadix : sg_ok (.static yX5_checkRadix) := ⟨ts_2_112.1.2.2.1.2, rfl⟩
set_option maxRecDepth 100000 in
theorem ci_X5_values : sg_ok (.code yX5_values cX5_values 6 (some .int)) := ⟨ts_2_128.1.1.2.1.2, rfl⟩
theorem cb_X5_values : sg_cb mi_X5_values 1 := ⟨ci_X5_values, iz_0, nh_0, pd_6, Nat.le_of_ble_eq_true rfl⟩
set_option maxRecDepth 100000 in
theorem mn_X5_values : sg_ok (.instanceMethod yX5_values) := ⟨ts_2_128.1.1.1.2.2, rfl⟩
set_option maxRecDepth 100000 in
theorem mv_X5_values : sg_ok (.selects RX5 yX5_values yX5_values) := ⟨ts_2_128.1.1.2.1.1, rfl⟩
set_option maxRecDepth 100000 in
theorem ci_X5_words : sg_ok (.code yX5_words cX5_words 5 (some .int)) := ⟨ts_2_128.1.2.1.1.2, rfl⟩
theorem cb_X5_words : sg_cb mi_X5_words 1 := ⟨ci_X5_words, iz_0, nh_0, pd_6, Nat.le_of_ble_eq_true rfl⟩
set_option maxRecDepth 100000 in
theorem mn_X5_words : sg_ok (.instanceMethod yX5_words) := ⟨ts_2_128.1.1.2.2.2, rfl⟩
