set_option maxRecDepth 100000 in
theorem ci_X5_raise : sg_ok (.code yX5_raise cX5_raise 6 (some .int)) := ⟨ts_3_48.1.2.2.2.2, rfl⟩
theorem cb_X5_raise : sg_cb mi_X5_raise 1 := ⟨ci_X5_raise, iz_0, nh_0, pd_6, Nat.le_of_ble_eq_true rfl⟩
set_option maxRecDepth 100000 in
theorem mn_X5_raise : sg_ok (.instanceMethod yX5_raise) := ⟨ts_3_48.1.2.2.1.2, rfl⟩
set_option maxRecDepth 100000 in
theorem mv_X5_raise : sg_ok (.selects RX5 yX5_raise yX5_raise) := ⟨ts_3_48.1.2.2.2.1, rfl⟩
set_option maxRecDepth 100000 in
theorem ci_X0_set : sg_ok (.code yX0_set cX0_set 3 (none : Option Jvm.ClassFile.FieldType)) := ⟨ts_3_64.1.1.1.2.2, rfl⟩
theorem pd_21 : (parseMethodDescriptor "(II)V").map (fun d => d.parameters.length) = some 2 := by decide +kernel
theorem cb_X0_set : sg_cb mi_X0_set 2 := ⟨ci_X0_set, iz_2, nh_2, pd_21, Nat.le_of_ble_eq_true rfl⟩
set_option maxRecDepth 100000 in
theorem mn_X0_set : sg_ok (.instanceMethod yX0_set) := ⟨ts_3_64.1.1.1.1.2, rfl⟩
set_option maxRecDepth 100000 in
theorem mv_X0_set : sg_ok (.selects RX0 yX0_set yX0_set) := ⟨ts_3_64.1.1.1.2.1, rfl⟩
set_option maxRecDepth 100000 in
theorem ms_L_sink : sg_ok (.static yL_sink) := ⟨ts_3_64.1.1.2.1.2, rfl⟩
set_option maxRecDepth 100000 in
theorem ci_X5_sink : sg_ok (.code yX5_sink cX5_sink 6 (some .int)) := ⟨ts_3_64.1.2.1.2.1, rfl⟩
