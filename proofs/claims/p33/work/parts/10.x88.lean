theorem pd_33 : (parseMethodDescriptor "(Z)I").map (fun d => d.parameters.length) = some 1 := by decide +kernel
theorem cb_X7_one : sg_cb mi_X7_one 1 := ⟨ci_X7_one, iz_7, nh_7, pd_33, Nat.le_of_ble_eq_true rfl⟩
set_option maxRecDepth 100000 in
theorem ms_X7_one : sg_ok (.static yX7_one) := ⟨ts_6_144.1.2.2.1.2, rfl⟩
set_option maxRecDepth 100000 in
theorem ci_X7_sink : sg_ok (.code yX7_sink cX7_sink 2 (some .int)) := ⟨ts_6_160.1.1.1.2.1, rfl⟩
theorem cb_X7_sink : sg_cb mi_X7_sink 1 := ⟨ci_X7_sink, iz_7, nh_7, pd_6, Nat.le_of_ble_eq_true rfl⟩
set_option maxRecDepth 100000 in
theorem mn_X7_sink : sg_ok (.instanceMethod yX7_sink) := ⟨ts_6_160.1.1.1.1.1, rfl⟩
set_option maxRecDepth 100000 in
theorem mv_X7_sink : sg_ok (.selects RX7 yX7_sink yX7_sink) := ⟨ts_6_160.1.1.1.1.2, rfl⟩
set_option maxRecDepth 100000 in
theorem ci_X7_sieve : sg_ok (.code yX7_sieve cX7_sieve 6 (some .int)) := ⟨ts_6_160.1.1.2.2.1, rfl⟩
theorem cb_X7_sieve : sg_cb mi_X7_sieve 3 := ⟨ci_X7_sieve, iz_7, nh_7, pd_22, Nat.le_of_ble_eq_true rfl⟩
set_option maxRecDepth 100000 in
theorem mn_X7_sieve : sg_ok (.instanceMethod yX7_sieve) := ⟨ts_6_160.1.1.2.1.1, rfl⟩
set_option maxRecDepth 100000 in
theorem mv_X7_sieve : sg_ok (.selects RX7 yX7_sieve yX7_sieve) := ⟨ts_6_160.1.1.2.1.2, rfl⟩
