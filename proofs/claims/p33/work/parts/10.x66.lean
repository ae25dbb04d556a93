theorem pd_24 : (parseMethodDescriptor "(LSignkinds$Line;LSignkinds$Line;)V").map (fun d => d.parameters.length) = some 2 := by decide +kernel
theorem cb_X4_listCodes : sg_cb mi_X4_listCodes 2 := ⟨ci_X4_listCodes, iz_5, nh_5, pd_24, Nat.le_of_ble_eq_true rfl⟩
set_option maxRecDepth 100000 in
theorem ms_X4_listCodes : sg_ok (.static yX4_listCodes) := ⟨ts_3_192.1.1.1.2.2, rfl⟩
set_option maxRecDepth 100000 in
theorem ms_L_undo : sg_ok (.static yL_undo) := ⟨ts_3_192.1.1.2.2.2, rfl⟩
set_option maxRecDepth 100000 in
theorem ci_X5_undo : sg_ok (.code yX5_undo cX5_undo 1 (some .int)) := ⟨ts_3_192.1.2.2.1.1, rfl⟩
theorem cb_X5_undo : sg_cb mi_X5_undo 0 := ⟨ci_X5_undo, iz_0, nh_0, pd_2, Nat.le_of_ble_eq_true rfl⟩
set_option maxRecDepth 100000 in
theorem mn_X5_undo : sg_ok (.instanceMethod yX5_undo) := ⟨ts_3_192.1.2.1.2.1, rfl⟩
set_option maxRecDepth 100000 in
theorem mv_X5_undo : sg_ok (.selects RX5 yX5_undo yX5_undo) := ⟨ts_3_192.1.2.1.2.2, rfl⟩
set_option maxRecDepth 100000 in
theorem ci_X1_bringBack : sg_ok (.code yX1_bringBack cX1_bringBack 4 (none : Option Jvm.ClassFile.FieldType)) := ⟨ts_3_208.1.1.1.1.2, rfl⟩
theorem cb_X1_bringBack : sg_cb mi_X1_bringBack 1 := ⟨ci_X1_bringBack, iz_3, nh_3, pd_18, Nat.le_of_ble_eq_true rfl⟩
set_option maxRecDepth 100000 in
theorem mn_X1_bringBack : sg_ok (.instanceMethod yX1_bringBack) := ⟨ts_3_192.1.2.2.2.2, rfl⟩
