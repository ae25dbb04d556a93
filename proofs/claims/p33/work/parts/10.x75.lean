set_option maxRecDepth 100000 in
theorem ci_X2_formOf : sg_ok (.code yX2_formOf cX2_formOf 1 (some .char)) := ⟨ts_4_112.1.1.2.2.1, rfl⟩
theorem pd_27 : (parseMethodDescriptor "(I)C").map (fun d => d.parameters.length) = some 1 := by decide +kernel
theorem cb_X2_formOf : sg_cb mi_X2_formOf 1 := ⟨ci_X2_formOf, iz_4, nh_4, pd_27, Nat.le_of_ble_eq_true rfl⟩
set_option maxRecDepth 100000 in
theorem ms_X2_formOf : sg_ok (.static yX2_formOf) := ⟨ts_4_112.1.1.2.1.2, rfl⟩
set_option maxRecDepth 100000 in
theorem ms_L_spelled : sg_ok (.static yL_spelled) := ⟨ts_5_112.1.1.1.1.2, rfl⟩
set_option maxRecDepth 100000 in
theorem ci_X5_spelled : sg_ok (.code yX5_spelled cX5_spelled 5 (some (.object "java/lang/String"))) := ⟨ts_5_112.1.1.2.2.1, rfl⟩
theorem cb_X5_spelled : sg_cb mi_X5_spelled 1 := ⟨ci_X5_spelled, iz_0, nh_0, pd_26, Nat.le_of_ble_eq_true rfl⟩
set_option maxRecDepth 100000 in
theorem mn_X5_spelled : sg_ok (.instanceMethod yX5_spelled) := ⟨ts_5_112.1.1.2.1.1, rfl⟩
set_option maxRecDepth 100000 in
theorem mv_X5_spelled : sg_ok (.selects RX5 yX5_spelled yX5_spelled) := ⟨ts_5_112.1.1.2.1.2, rfl⟩
set_option maxRecDepth 100000 in
theorem ms_L_told : sg_ok (.static yL_told) := ⟨ts_5_112.1.2.1.1.1, rfl⟩
set_option maxRecDepth 100000 in
theorem ms_L_sum : sg_ok (.static yL_sum) := ⟨ts_5_112.1.2.2.1.1, rfl⟩
