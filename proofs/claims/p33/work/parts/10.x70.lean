set_option maxRecDepth 100000 in
theorem mv_X5_kinds : sg_ok (.selects RX5 yX5_kinds yX5_kinds) := ⟨ts_4_0.1.2.1.2.1, rfl⟩
set_option maxRecDepth 100000 in
theorem ms_L_upper : sg_ok (.static yL_upper) := ⟨ts_4_0.1.2.2.1.2, rfl⟩
set_option maxRecDepth 100000 in
theorem ci_X5_upper : sg_ok (.code yX5_upper cX5_upper 3 (some .int)) := ⟨ts_4_16.1.1.1.2.1, rfl⟩
theorem pd_25 : (parseMethodDescriptor "(IZ)I").map (fun d => d.parameters.length) = some 2 := by decide +kernel
theorem cb_X5_upper : sg_cb mi_X5_upper 2 := ⟨ci_X5_upper, iz_0, nh_0, pd_25, Nat.le_of_ble_eq_true rfl⟩
set_option maxRecDepth 100000 in
theorem mn_X5_upper : sg_ok (.instanceMethod yX5_upper) := ⟨ts_4_16.1.1.1.1.1, rfl⟩
set_option maxRecDepth 100000 in
theorem mv_X5_upper : sg_ok (.selects RX5 yX5_upper yX5_upper) := ⟨ts_4_16.1.1.1.1.2, rfl⟩
set_option maxRecDepth 100000 in
theorem ms_L_lower : sg_ok (.static yL_lower) := ⟨ts_4_16.1.1.2.1.1, rfl⟩
set_option maxRecDepth 100000 in
theorem ci_X5_lower : sg_ok (.code yX5_lower cX5_lower 3 (some .int)) := ⟨ts_4_16.1.2.1.1.2, rfl⟩
theorem cb_X5_lower : sg_cb mi_X5_lower 2 := ⟨ci_X5_lower, iz_0, nh_0, pd_25, Nat.le_of_ble_eq_true rfl⟩
set_option maxRecDepth 100000 in
theorem mn_X5_lower : sg_ok (.instanceMethod yX5_lower) := ⟨ts_4_16.1.1.2.2.2, rfl⟩
