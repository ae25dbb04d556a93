set_option maxRecDepth 100000 in
theorem ci_X0_become : sg_ok (.code yX0_become cX0_become 3 (none : Option Jvm.ClassFile.FieldType)) := ⟨ts_3_16.1.1.2.2.2, rfl⟩
theorem pd_19 : (parseMethodDescriptor "(LSignkinds$Line;)V").map (fun d => d.parameters.length) = some 1 := by decide +kernel
theorem cb_X0_become : sg_cb mi_X0_become 1 := ⟨ci_X0_become, iz_2, nh_2, pd_19, Nat.le_of_ble_eq_true rfl⟩
set_option maxRecDepth 100000 in
theorem mn_X0_become : sg_ok (.instanceMethod yX0_become) := ⟨ts_3_16.1.1.2.1.2, rfl⟩
set_option maxRecDepth 100000 in
theorem mv_X0_become : sg_ok (.selects RX0 yX0_become yX0_become) := ⟨ts_3_16.1.1.2.2.1, rfl⟩
set_option maxRecDepth 100000 in
theorem ci_X0_add : sg_ok (.code yX0_add cX0_add 2 (none : Option Jvm.ClassFile.FieldType)) := ⟨ts_3_16.1.2.2.1.1, rfl⟩
theorem cb_X0_add : sg_cb mi_X0_add 1 := ⟨ci_X0_add, iz_2, nh_2, pd_1, Nat.le_of_ble_eq_true rfl⟩
set_option maxRecDepth 100000 in
theorem mn_X0_add : sg_ok (.instanceMethod yX0_add) := ⟨ts_3_16.1.2.1.2.1, rfl⟩
set_option maxRecDepth 100000 in
theorem mv_X0_add : sg_ok (.selects RX0 yX0_add yX0_add) := ⟨ts_3_16.1.2.1.2.2, rfl⟩
set_option maxRecDepth 100000 in
theorem ci_X5_addLaid : sg_ok (.code yX5_addLaid cX5_addLaid 2 (none : Option Jvm.ClassFile.FieldType)) := ⟨ts_3_16.1.2.2.2.2, rfl⟩
theorem pd_20 : (parseMethodDescriptor "(LSignkinds$Line;I)V").map (fun d => d.parameters.length) = some 2 := by decide +kernel
