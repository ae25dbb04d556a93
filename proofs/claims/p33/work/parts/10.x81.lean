set_option maxRecDepth 100000 in
theorem mn_X5_nth : sg_ok (.instanceMethod yX5_nth) := ⟨ts_5_208.1.1.2.1.1, rfl⟩
set_option maxRecDepth 100000 in
theorem mv_X5_nth : sg_ok (.selects RX5 yX5_nth yX5_nth) := ⟨ts_5_208.1.1.2.1.2, rfl⟩
set_option maxRecDepth 100000 in
theorem ci_X4_codeBegin : sg_ok (.code yX4_codeBegin cX4_codeBegin 4 (some .int)) := ⟨ts_5_208.1.2.1.1.2, rfl⟩
theorem cb_X4_codeBegin : sg_cb mi_X4_codeBegin 2 := ⟨ci_X4_codeBegin, iz_5, nh_5, pd_12, Nat.le_of_ble_eq_true rfl⟩
set_option maxRecDepth 100000 in
theorem ms_X4_codeBegin : sg_ok (.static yX4_codeBegin) := ⟨ts_5_208.1.2.1.1.1, rfl⟩
set_option maxRecDepth 100000 in
theorem ms_L_house : sg_ok (.static yL_house) := ⟨ts_5_208.1.2.1.2.2, rfl⟩
set_option maxRecDepth 100000 in
theorem iz_7 : sg_ok (.initialized RX7) := ⟨ts_1_0.1.1.2.1.2, rfl⟩
set_option maxRecDepth 100000 in
theorem ci_X7_init : sg_ok (.code yX7_init cX7_init 1 (none : Option Jvm.ClassFile.FieldType)) := ⟨ts_5_224.1.1.1.2.1, rfl⟩
theorem nh_7 : RX7 ≠ "java/lang/invoke/MethodHandle" ∧ RX7 ≠ "java/lang/invoke/VarHandle" := ⟨by decide +kernel, by decide +kernel⟩
theorem cb_X7_init : sg_cb mi_X7_init 0 := ⟨ci_X7_init, iz_7, nh_7, pd_0, Nat.le_of_ble_eq_true rfl⟩
set_option maxRecDepth 100000 in
theorem mn_X7_init : sg_ok (.instanceMethod yX7_init) := ⟨ts_5_224.1.1.1.1.2, rfl⟩
