set_option maxRecDepth 100000 in
theorem mv_J4_toString_0e30d : sg_ok (.selects RJ4 yJ4_toString_0e30d yJ4_toString_0e30d) := ⟨ts_4_208.1.2.1.1.1, rfl⟩
set_option maxRecDepth 100000 in
theorem iz_10 : sg_ok (.initialized RJx4a65c) := ⟨ts_1_0.1.2.1.1.1, rfl⟩
set_option maxRecDepth 100000 in
theorem ci_Jx4a65c_init_da8c8 : sg_ok (.code yJx4a65c_init_da8c8 cJx4a65c_init_da8c8 1 (none : Option Jvm.ClassFile.FieldType)) := ⟨ts_5_224.1.2.1.2.1, rfl⟩
theorem nh_10 : RJx4a65c ≠ "java/lang/invoke/MethodHandle" ∧ RJx4a65c ≠ "java/lang/invoke/VarHandle" := ⟨by decide +kernel, by decide +kernel⟩
theorem cb_Jx4a65c_init_da8c8 : sg_cb mi_Jx4a65c_init_da8c8 0 := ⟨ci_Jx4a65c_init_da8c8, iz_10, nh_10, pd_0, Nat.le_of_ble_eq_true rfl⟩
set_option maxRecDepth 100000 in
theorem mn_Jx4a65c_init_da8c8 : sg_ok (.instanceMethod yJx4a65c_init_da8c8) := ⟨ts_5_224.1.2.1.1.2, rfl⟩
set_option maxRecDepth 100000 in
theorem ci_Jx4a65c_add_9ea2d : sg_ok (.code yJx4a65c_add_9ea2d cJx4a65c_add_9ea2d 2 (some .boolean)) := ⟨ts_6_64.1.1.1.2.2, rfl⟩
theorem pd_41 : (parseMethodDescriptor "(Ljava/lang/Object;)Z").map (fun d => d.parameters.length) = some 1 := by decide +kernel
theorem cb_Jx4a65c_add_9ea2d : sg_cb mi_Jx4a65c_add_9ea2d 1 := ⟨ci_Jx4a65c_add_9ea2d, iz_10, nh_10, pd_41, Nat.le_of_ble_eq_true rfl⟩
set_option maxRecDepth 100000 in
theorem mn_Jx4a65c_add_9ea2d : sg_ok (.instanceMethod yJx4a65c_add_9ea2d) := ⟨ts_6_64.1.1.1.1.2, rfl⟩
set_option maxRecDepth 100000 in
theorem mv_Jx4a65c_add_9ea2d : sg_ok (.selects RJx4a65c yJx4a65c_add_9ea2d yJx4a65c_add_9ea2d) := ⟨ts_6_64.1.1.1.2.1, rfl⟩
