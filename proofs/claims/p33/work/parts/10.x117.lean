set_option maxRecDepth 100000 in
theorem ci_X7_digest : sg_ok (.code yX7_digest cX7_digest 13 (some .long)) := ⟨ts_8_16.1.2.2.1.1, rfl⟩
theorem cb_X7_digest : sg_cb mi_X7_digest 0 := ⟨ci_X7_digest, iz_7, nh_7, pd_14, Nat.le_of_ble_eq_true rfl⟩
set_option maxRecDepth 100000 in
theorem mn_X7_digest : sg_ok (.instanceMethod yX7_digest) := ⟨ts_8_16.1.2.1.2.1, rfl⟩
set_option maxRecDepth 100000 in
theorem mv_X7_digest : sg_ok (.selects RX7 yX7_digest yX7_digest) := ⟨ts_8_16.1.2.1.2.2, rfl⟩
set_option maxRecDepth 100000 in
theorem iz_9 : sg_ok (.initialized RJ4) := ⟨ts_1_16.1.2.1.1.2, rfl⟩
set_option maxRecDepth 100000 in
theorem ci_J4_init_da8c8 : sg_ok (.code yJ4_init_da8c8 cJ4_init_da8c8 1 (none : Option Jvm.ClassFile.FieldType)) := ⟨ts_4_80.1.2.1.1.2, rfl⟩
theorem nh_9 : RJ4 ≠ "java/lang/invoke/MethodHandle" ∧ RJ4 ≠ "java/lang/invoke/VarHandle" := ⟨by decide +kernel, by decide +kernel⟩
theorem cb_J4_init_da8c8 : sg_cb mi_J4_init_da8c8 0 := ⟨ci_J4_init_da8c8, iz_9, nh_9, pd_0, Nat.le_of_ble_eq_true rfl⟩
set_option maxRecDepth 100000 in
theorem mn_J4_init_da8c8 : sg_ok (.instanceMethod yJ4_init_da8c8) := ⟨ts_4_80.1.2.1.1.1, rfl⟩
set_option maxRecDepth 100000 in
theorem ci_J4_append_cf468 : sg_ok (.code yJ4_append_cf468 cJ4_append_cf468 2 (some (.object "java/lang/StringBuilder"))) := ⟨ts_4_112.1.2.1.2.1, rfl⟩
theorem pd_38 : (parseMethodDescriptor "(C)Ljava/lang/StringBuilder;").map (fun d => d.parameters.length) = some 1 := by decide +kernel
