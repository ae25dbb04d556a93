theorem cb_X1_init : sg_cb mi_X1_init 0 := ⟨ci_X1_init, iz_3, nh_3, pd_0, Nat.le_of_ble_eq_true rfl⟩
set_option maxRecDepth 100000 in
theorem mn_X1_init : sg_ok (.instanceMethod yX1_init) := ⟨ts_1_64.1.2.1.1.1, rfl⟩
set_option maxRecDepth 100000 in
theorem ci_X5_knock : sg_ok (.code yX5_knock cX5_knock 1 (some .int)) := ⟨ts_1_96.1.1.2.2.2, rfl⟩
theorem pd_2 : (parseMethodDescriptor "()I").map (fun d => d.parameters.length) = some 0 := by decide +kernel
theorem cb_X5_knock : sg_cb mi_X5_knock 0 := ⟨ci_X5_knock, iz_0, nh_0, pd_2, Nat.le_of_ble_eq_true rfl⟩
set_option maxRecDepth 100000 in
theorem mn_X5_knock : sg_ok (.instanceMethod yX5_knock) := ⟨ts_1_96.1.1.2.1.2, rfl⟩
set_option maxRecDepth 100000 in
theorem mv_X5_knock : sg_ok (.selects RX5 yX5_knock yX5_knock) := ⟨ts_1_96.1.1.2.2.1, rfl⟩
set_option maxRecDepth 100000 in
theorem ci_X5_digit : sg_ok (.code yX5_digit cX5_digit 3 (some .int)) := ⟨ts_1_96.1.2.1.2.2, rfl⟩
theorem pd_3 : (parseMethodDescriptor "(II)I").map (fun d => d.parameters.length) = some 2 := by decide +kernel
theorem cb_X5_digit : sg_cb mi_X5_digit 2 := ⟨ci_X5_digit, iz_0, nh_0, pd_3, Nat.le_of_ble_eq_true rfl⟩
set_option maxRecDepth 100000 in
theorem mn_X5_digit : sg_ok (.instanceMethod yX5_digit) := ⟨ts_1_96.1.2.1.1.2, rfl⟩
set_option maxRecDepth 100000 in
theorem mv_X5_digit : sg_ok (.selects RX5 yX5_digit yX5_digit) := ⟨ts_1_96.1.2.1.2.1, rfl⟩
