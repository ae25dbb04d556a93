theorem cb_J4_append_cf468 : sg_cb mi_J4_append_cf468 1 := ⟨ci_J4_append_cf468, iz_9, nh_9, pd_38, Nat.le_of_ble_eq_true rfl⟩
set_option maxRecDepth 100000 in
theorem mn_J4_append_cf468 : sg_ok (.instanceMethod yJ4_append_cf468) := ⟨ts_4_112.1.2.1.1.1, rfl⟩
set_option maxRecDepth 100000 in
theorem mv_J4_append_cf468 : sg_ok (.selects RJ4 yJ4_append_cf468 yJ4_append_cf468) := ⟨ts_4_112.1.2.1.1.2, rfl⟩
set_option maxRecDepth 100000 in
theorem ci_J4_append_15ec4 : sg_ok (.code yJ4_append_15ec4 cJ4_append_15ec4 2 (some (.object "java/lang/StringBuilder"))) := ⟨ts_5_48.1.1.1.2.2, rfl⟩
theorem pd_39 : (parseMethodDescriptor "(Ljava/lang/String;)Ljava/lang/StringBuilder;").map (fun d => d.parameters.length) = some 1 := by decide +kernel
theorem cb_J4_append_15ec4 : sg_cb mi_J4_append_15ec4 1 := ⟨ci_J4_append_15ec4, iz_9, nh_9, pd_39, Nat.le_of_ble_eq_true rfl⟩
set_option maxRecDepth 100000 in
theorem mn_J4_append_15ec4 : sg_ok (.instanceMethod yJ4_append_15ec4) := ⟨ts_5_48.1.1.1.1.2, rfl⟩
set_option maxRecDepth 100000 in
theorem mv_J4_append_15ec4 : sg_ok (.selects RJ4 yJ4_append_15ec4 yJ4_append_15ec4) := ⟨ts_5_48.1.1.1.2.1, rfl⟩
set_option maxRecDepth 100000 in
theorem ci_J4_toString_0e30d : sg_ok (.code yJ4_toString_0e30d cJ4_toString_0e30d 1 (some (.object "java/lang/String"))) := ⟨ts_4_208.1.2.1.1.2, rfl⟩
theorem pd_40 : (parseMethodDescriptor "()Ljava/lang/String;").map (fun d => d.parameters.length) = some 0 := by decide +kernel
theorem cb_J4_toString_0e30d : sg_cb mi_J4_toString_0e30d 0 := ⟨ci_J4_toString_0e30d, iz_9, nh_9, pd_40, Nat.le_of_ble_eq_true rfl⟩
set_option maxRecDepth 100000 in
theorem mn_J4_toString_0e30d : sg_ok (.instanceMethod yJ4_toString_0e30d) := ⟨ts_4_208.1.1.2.2.2, rfl⟩
