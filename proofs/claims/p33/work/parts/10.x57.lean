theorem cb_X5_sink : sg_cb mi_X5_sink 1 := ⟨ci_X5_sink, iz_0, nh_0, pd_6, Nat.le_of_ble_eq_true rfl⟩
set_option maxRecDepth 100000 in
theorem mn_X5_sink : sg_ok (.instanceMethod yX5_sink) := ⟨ts_3_64.1.2.1.1.1, rfl⟩
set_option maxRecDepth 100000 in
theorem mv_X5_sink : sg_ok (.selects RX5 yX5_sink yX5_sink) := ⟨ts_3_64.1.2.1.1.2, rfl⟩
set_option maxRecDepth 100000 in
theorem ms_L_sieve : sg_ok (.static yL_sieve) := ⟨ts_3_64.1.2.2.1.1, rfl⟩
set_option maxRecDepth 100000 in
theorem ci_X5_sieve : sg_ok (.code yX5_sieve cX5_sieve 8 (some .int)) := ⟨ts_3_80.1.1.1.1.2, rfl⟩
theorem pd_22 : (parseMethodDescriptor "(IIZ)I").map (fun d => d.parameters.length) = some 3 := by decide +kernel
theorem cb_X5_sieve : sg_cb mi_X5_sieve 3 := ⟨ci_X5_sieve, iz_0, nh_0, pd_22, Nat.le_of_ble_eq_true rfl⟩
set_option maxRecDepth 100000 in
theorem mn_X5_sieve : sg_ok (.instanceMethod yX5_sieve) := ⟨ts_3_64.1.2.2.2.2, rfl⟩
set_option maxRecDepth 100000 in
theorem mv_X5_sieve : sg_ok (.selects RX5 yX5_sieve yX5_sieve) := ⟨ts_3_80.1.1.1.1.1, rfl⟩
set_option maxRecDepth 100000 in
theorem ms_L_strip : sg_ok (.static yL_strip) := ⟨ts_3_80.1.1.1.2.2, rfl⟩
set_option maxRecDepth 100000 in
theorem ci_X5_strip : sg_ok (.code yX5_strip cX5_strip 6 (some .int)) := ⟨ts_3_80.1.2.1.1.1, rfl⟩
