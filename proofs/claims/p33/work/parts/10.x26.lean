def mi_Jx4a65c_init_da8c8 : sg_M := (yJx4a65c_init_da8c8, cJx4a65c_init_da8c8, 1, (none : Option Jvm.ClassFile.FieldType))
def mi_Jx4a65c_add_9ea2d : sg_M := (yJx4a65c_add_9ea2d, cJx4a65c_add_9ea2d, 2, (some .boolean))
def mi_Jx4a65c_get_915e3 : sg_M := (yJx4a65c_get_915e3, cJx4a65c_get_915e3, 2, (some (.object "java/lang/Object")))
def mi_Jx4a65c_isEmpty_aae02 : sg_M := (yJx4a65c_isEmpty_aae02, cJx4a65c_isEmpty_aae02, 1, (some .boolean))
def mi_Jx4a65c_remove_915e3 : sg_M := (yJx4a65c_remove_915e3, cJx4a65c_remove_915e3, 4, (some (.object "java/lang/Object")))
def mi_Jx4a65c_size_8abf5 : sg_M := (yJx4a65c_size_8abf5, cJx4a65c_size_8abf5, 1, (some .int))
set_option maxRecDepth 100000 in
theorem iz_0 : sg_ok (.initialized RX5) := ⟨ts_1_0.1.1.1.1.2, rfl⟩
set_option maxRecDepth 100000 in
theorem ci_X5_init : sg_ok (.code yX5_init cX5_init 1 (none : Option Jvm.ClassFile.FieldType)) := ⟨ts_1_32.1.1.1.2.2, rfl⟩
theorem nh_0 : RX5 ≠ "java/lang/invoke/MethodHandle" ∧ RX5 ≠ "java/lang/invoke/VarHandle" := ⟨by decide +kernel, by decide +kernel⟩
theorem pd_0 : (parseMethodDescriptor "()V").map (fun d => d.parameters.length) = some 0 := by decide +kernel
theorem cb_X5_init : sg_cb mi_X5_init 0 := ⟨ci_X5_init, iz_0, nh_0, pd_0, Nat.le_of_ble_eq_true rfl⟩
set_option maxRecDepth 100000 in
theorem mn_X5_init : sg_ok (.instanceMethod yX5_init) := ⟨ts_1_32.1.1.1.2.1, rfl⟩
set_option maxRecDepth 100000 in
theorem iz_1 : sg_ok (.initialized RX3) := ⟨ts_1_0.1.1.1.2.1, rfl⟩
set_option maxRecDepth 100000 in
theorem ci_X3_init : sg_ok (.code yX3_init cX3_init 2 (none : Option Jvm.ClassFile.FieldType)) := ⟨ts_1_32.1.2.1.2.2, rfl⟩
