theorem cb_X5_canBeRead : sg_cb mi_X5_canBeRead 1 := ⟨ci_X5_canBeRead, iz_0, nh_0, pd_9, Nat.le_of_ble_eq_true rfl⟩
set_option maxRecDepth 100000 in
theorem ms_X5_canBeRead : sg_ok (.static yX5_canBeRead) := ⟨ts_3_144.1.2.1.1.1, rfl⟩
set_option maxRecDepth 100000 in
theorem ms_L_send : sg_ok (.static yL_send) := ⟨ts_3_144.1.2.1.2.2, rfl⟩
set_option maxRecDepth 100000 in
theorem ci_X5_send : sg_ok (.code yX5_send cX5_send 4 (some .int)) := ⟨ts_3_160.1.1.1.1.1, rfl⟩
theorem cb_X5_send : sg_cb mi_X5_send 2 := ⟨ci_X5_send, iz_0, nh_0, pd_3, Nat.le_of_ble_eq_true rfl⟩
set_option maxRecDepth 100000 in
theorem mn_X5_send : sg_ok (.instanceMethod yX5_send) := ⟨ts_3_144.1.2.2.2.1, rfl⟩
set_option maxRecDepth 100000 in
theorem mv_X5_send : sg_ok (.selects RX5 yX5_send yX5_send) := ⟨ts_3_144.1.2.2.2.2, rfl⟩
set_option maxRecDepth 100000 in
theorem ci_X4_addCode : sg_ok (.code yX4_addCode cX4_addCode 2 (none : Option Jvm.ClassFile.FieldType)) := ⟨ts_3_160.1.1.2.1.1, rfl⟩
theorem cb_X4_addCode : sg_cb mi_X4_addCode 2 := ⟨ci_X4_addCode, iz_5, nh_5, pd_20, Nat.le_of_ble_eq_true rfl⟩
set_option maxRecDepth 100000 in
theorem ms_X4_addCode : sg_ok (.static yX4_addCode) := ⟨ts_3_160.1.1.1.2.2, rfl⟩
set_option maxRecDepth 100000 in
theorem ms_L_put : sg_ok (.static yL_put) := ⟨ts_3_160.1.1.2.2.2, rfl⟩
