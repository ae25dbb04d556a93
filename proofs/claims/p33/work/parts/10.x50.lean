set_option maxRecDepth 100000 in
theorem iz_6 : sg_ok (.initialized RX6) := ⟨ts_1_0.1.2.1.1.2, rfl⟩
set_option maxRecDepth 100000 in
theorem ci_X6_init : sg_ok (.code yX6_init cX6_init 1 (none : Option Jvm.ClassFile.FieldType)) := ⟨ts_2_192.1.2.1.2.2, rfl⟩
theorem nh_6 : RX6 ≠ "java/lang/invoke/MethodHandle" ∧ RX6 ≠ "java/lang/invoke/VarHandle" := ⟨by decide +kernel, by decide +kernel⟩
theorem cb_X6_init : sg_cb mi_X6_init 0 := ⟨ci_X6_init, iz_6, nh_6, pd_0, Nat.le_of_ble_eq_true rfl⟩
set_option maxRecDepth 100000 in
theorem mn_X6_init : sg_ok (.instanceMethod yX6_init) := ⟨ts_2_192.1.2.1.2.1, rfl⟩
set_option maxRecDepth 100000 in
theorem ms_L_lay : sg_ok (.static yL_lay) := ⟨ts_2_208.1.1.2.1.2, rfl⟩
set_option maxRecDepth 100000 in
theorem ci_X5_lay : sg_ok (.code yX5_lay cX5_lay 8 (some .int)) := ⟨ts_2_208.1.2.2.1.2, rfl⟩
theorem pd_17 : (parseMethodDescriptor "(IIIII)I").map (fun d => d.parameters.length) = some 5 := by decide +kernel
theorem cb_X5_lay : sg_cb mi_X5_lay 5 := ⟨ci_X5_lay, iz_0, nh_0, pd_17, Nat.le_of_ble_eq_true rfl⟩
set_option maxRecDepth 100000 in
theorem mn_X5_lay : sg_ok (.instanceMethod yX5_lay) := ⟨ts_2_208.1.2.1.2.2, rfl⟩
set_option maxRecDepth 100000 in
theorem mv_X5_lay : sg_ok (.selects RX5 yX5_lay yX5_lay) := ⟨ts_2_208.1.2.2.1.1, rfl⟩
