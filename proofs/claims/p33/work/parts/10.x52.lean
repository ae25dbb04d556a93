set_option maxRecDepth 100000 in
theorem mn_X0_hasRoomFor : sg_ok (.instanceMethod yX0_hasRoomFor) := ⟨ts_2_224.1.2.1.1.2, rfl⟩
set_option maxRecDepth 100000 in
theorem mv_X0_hasRoomFor : sg_ok (.selects RX0 yX0_hasRoomFor yX0_hasRoomFor) := ⟨ts_2_224.1.2.1.2.1, rfl⟩
set_option maxRecDepth 100000 in
theorem ci_X1_keep : sg_ok (.code yX1_keep cX1_keep 4 (none : Option Jvm.ClassFile.FieldType)) := ⟨ts_3_0.1.2.2.2.2, rfl⟩
theorem pd_18 : (parseMethodDescriptor "(LSignkinds$State;)V").map (fun d => d.parameters.length) = some 1 := by decide +kernel
theorem cb_X1_keep : sg_cb mi_X1_keep 1 := ⟨ci_X1_keep, iz_3, nh_3, pd_18, Nat.le_of_ble_eq_true rfl⟩
set_option maxRecDepth 100000 in
theorem mn_X1_keep : sg_ok (.instanceMethod yX1_keep) := ⟨ts_3_0.1.2.2.1.2, rfl⟩
set_option maxRecDepth 100000 in
theorem mv_X1_keep : sg_ok (.selects RX1 yX1_keep yX1_keep) := ⟨ts_3_0.1.2.2.2.1, rfl⟩
set_option maxRecDepth 100000 in
theorem ci_X3_become : sg_ok (.code yX3_become cX3_become 3 (none : Option Jvm.ClassFile.FieldType)) := ⟨ts_3_16.1.1.1.2.2, rfl⟩
theorem cb_X3_become : sg_cb mi_X3_become 1 := ⟨ci_X3_become, iz_1, nh_1, pd_18, Nat.le_of_ble_eq_true rfl⟩
set_option maxRecDepth 100000 in
theorem mn_X3_become : sg_ok (.instanceMethod yX3_become) := ⟨ts_3_16.1.1.1.1.2, rfl⟩
set_option maxRecDepth 100000 in
theorem mv_X3_become : sg_ok (.selects RX3 yX3_become yX3_become) := ⟨ts_3_16.1.1.1.2.1, rfl⟩
