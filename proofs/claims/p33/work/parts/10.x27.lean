theorem nh_1 : RX3 ≠ "java/lang/invoke/MethodHandle" ∧ RX3 ≠ "java/lang/invoke/VarHandle" := ⟨by decide +kernel, by decide +kernel⟩
theorem cb_X3_init : sg_cb mi_X3_init 0 := ⟨ci_X3_init, iz_1, nh_1, pd_0, Nat.le_of_ble_eq_true rfl⟩
set_option maxRecDepth 100000 in
theorem mn_X3_init : sg_ok (.instanceMethod yX3_init) := ⟨ts_1_32.1.2.1.2.1, rfl⟩
set_option maxRecDepth 100000 in
theorem iz_2 : sg_ok (.initialized RX0) := ⟨ts_1_0.1.1.1.2.2, rfl⟩
set_option maxRecDepth 100000 in
theorem ci_X0_init : sg_ok (.code yX0_init cX0_init 2 (none : Option Jvm.ClassFile.FieldType)) := ⟨ts_1_48.1.1.1.2.1, rfl⟩
theorem nh_2 : RX0 ≠ "java/lang/invoke/MethodHandle" ∧ RX0 ≠ "java/lang/invoke/VarHandle" := ⟨by decide +kernel, by decide +kernel⟩
theorem pd_1 : (parseMethodDescriptor "(I)V").map (fun d => d.parameters.length) = some 1 := by decide +kernel
theorem cb_X0_init : sg_cb mi_X0_init 1 := ⟨ci_X0_init, iz_2, nh_2, pd_1, Nat.le_of_ble_eq_true rfl⟩
set_option maxRecDepth 100000 in
theorem mn_X0_init : sg_ok (.instanceMethod yX0_init) := ⟨ts_1_48.1.1.1.1.2, rfl⟩
set_option maxRecDepth 100000 in
theorem iz_3 : sg_ok (.initialized RX1) := ⟨ts_1_0.1.1.2.1.1, rfl⟩
set_option maxRecDepth 100000 in
theorem ci_X1_init : sg_ok (.code yX1_init cX1_init 2 (none : Option Jvm.ClassFile.FieldType)) := ⟨ts_1_64.1.2.1.1.2, rfl⟩
theorem nh_3 : RX1 ≠ "java/lang/invoke/MethodHandle" ∧ RX1 ≠ "java/lang/invoke/VarHandle" := ⟨by decide +kernel, by decide +kernel⟩
