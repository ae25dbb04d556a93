set_option maxRecDepth 100000 in
theorem ms_X2_signValue : sg_ok (.static yX2_signValue) := ⟨ts_2_80.1.2.2.1.2, rfl⟩
set_option maxRecDepth 100000 in
theorem ci_X5_count : sg_ok (.code yX5_count cX5_count 6 (some .int)) := ⟨ts_2_96.1.1.1.2.2, rfl⟩
theorem cb_X5_count : sg_cb mi_X5_count 2 := ⟨ci_X5_count, iz_0, nh_0, pd_3, Nat.le_of_ble_eq_true rfl⟩
set_option maxRecDepth 100000 in
theorem mn_X5_count : sg_ok (.instanceMethod yX5_count) := ⟨ts_2_96.1.1.1.1.2, rfl⟩
set_option maxRecDepth 100000 in
theorem mv_X5_count : sg_ok (.selects RX5 yX5_count yX5_count) := ⟨ts_2_96.1.1.1.2.1, rfl⟩
set_option maxRecDepth 100000 in
theorem ci_X5_checkKind : sg_ok (.code yX5_checkKind cX5_checkKind 1 (none : Option Jvm.ClassFile.FieldType)) := ⟨ts_2_96.1.1.2.2.1, rfl⟩
theorem cb_X5_checkKind : sg_cb mi_X5_checkKind 1 := ⟨ci_X5_checkKind, iz_0, nh_0, pd_1, Nat.le_of_ble_eq_true rfl⟩
set_option maxRecDepth 100000 in
theorem ms_X5_checkKind : sg_ok (.static yX5_checkKind) := ⟨ts_2_96.1.1.2.1.2, rfl⟩
set_option maxRecDepth 100000 in
theorem ci_X5_told : sg_ok (.code yX5_told cX5_told 7 (some .int)) := ⟨ts_2_112.1.2.1.2.2, rfl⟩
theorem cb_X5_told : sg_cb mi_X5_told 2 := ⟨ci_X5_told, iz_0, nh_0, pd_3, Nat.le_of_ble_eq_true rfl⟩
set_option maxRecDepth 100000 in
theorem mn_X5_told : sg_ok (.instanceMethod yX5_told) := ⟨ts_2_112.1.2.1.1.2, rfl⟩
