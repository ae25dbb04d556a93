set_option maxRecDepth 100000 in
theorem ms_L_last : sg_ok (.static yL_last) := ⟨ts_4_64.1.2.1.1.1, rfl⟩
set_option maxRecDepth 100000 in
theorem ci_X5_last : sg_ok (.code yX5_last cX5_last 5 (some .int)) := ⟨ts_4_64.1.2.2.1.2, rfl⟩
theorem cb_X5_last : sg_cb mi_X5_last 2 := ⟨ci_X5_last, iz_0, nh_0, pd_3, Nat.le_of_ble_eq_true rfl⟩
set_option maxRecDepth 100000 in
theorem mn_X5_last : sg_ok (.instanceMethod yX5_last) := ⟨ts_4_64.1.2.1.2.2, rfl⟩
set_option maxRecDepth 100000 in
theorem mv_X5_last : sg_ok (.selects RX5 yX5_last yX5_last) := ⟨ts_4_64.1.2.2.1.1, rfl⟩
set_option maxRecDepth 100000 in
theorem ms_L_forms : sg_ok (.static yL_forms) := ⟨ts_4_64.1.2.2.2.2, rfl⟩
set_option maxRecDepth 100000 in
theorem ci_X5_forms : sg_ok (.code yX5_forms cX5_forms 5 (some (.object "java/lang/String"))) := ⟨ts_4_80.1.1.2.1.1, rfl⟩
theorem pd_26 : (parseMethodDescriptor "(I)Ljava/lang/String;").map (fun d => d.parameters.length) = some 1 := by decide +kernel
theorem cb_X5_forms : sg_cb mi_X5_forms 1 := ⟨ci_X5_forms, iz_0, nh_0, pd_26, Nat.le_of_ble_eq_true rfl⟩
set_option maxRecDepth 100000 in
theorem mn_X5_forms : sg_ok (.instanceMethod yX5_forms) := ⟨ts_4_80.1.1.1.2.1, rfl⟩
set_option maxRecDepth 100000 in
theorem mv_X5_forms : sg_ok (.selects RX5 yX5_forms yX5_forms) := ⟨ts_4_80.1.1.1.2.2, rfl⟩
