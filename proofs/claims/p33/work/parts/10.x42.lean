theorem cb_X5_withRow : sg_cb mi_X5_withRow 2 := ⟨ci_X5_withRow, iz_0, nh_0, pd_15, Nat.le_of_ble_eq_true rfl⟩
set_option maxRecDepth 100000 in
theorem mn_X5_withRow : sg_ok (.instanceMethod yX5_withRow) := ⟨ts_2_80.1.1.1.1.2, rfl⟩
theorem mv_X5_withRow : sg_ok (.selects RX5 yX5_withRow yX5_withRow) := sg_oks 3 (by decide +kernel)
set_option maxRecDepth 100000 in
theorem ci_X5_with : sg_ok (.code yX5_with cX5_with 4 (some .long)) := ⟨ts_2_80.1.1.2.1.2, rfl⟩
theorem pd_16 : (parseMethodDescriptor "(JJ)J").map (fun d => d.parameters.length) = some 2 := by decide +kernel
theorem cb_X5_with : sg_cb mi_X5_with 2 := ⟨ci_X5_with, iz_0, nh_0, pd_16, Nat.le_of_ble_eq_true rfl⟩
set_option maxRecDepth 100000 in
theorem ms_X5_with : sg_ok (.static yX5_with) := ⟨ts_2_80.1.1.2.1.1, rfl⟩
set_option maxRecDepth 100000 in
theorem ci_X2_kindsOf : sg_ok (.code yX2_kindsOf cX2_kindsOf 3 (some .int)) := ⟨ts_2_80.1.2.1.1.2, rfl⟩
theorem cb_X2_kindsOf : sg_cb mi_X2_kindsOf 1 := ⟨ci_X2_kindsOf, iz_4, nh_4, pd_6, Nat.le_of_ble_eq_true rfl⟩
set_option maxRecDepth 100000 in
theorem ms_X2_kindsOf : sg_ok (.static yX2_kindsOf) := ⟨ts_2_80.1.2.1.1.1, rfl⟩
set_option maxRecDepth 100000 in
theorem ci_X2_signValue : sg_ok (.code yX2_signValue cX2_signValue 1 (some .int)) := ⟨ts_2_80.1.2.2.2.1, rfl⟩
theorem cb_X2_signValue : sg_cb mi_X2_signValue 1 := ⟨ci_X2_signValue, iz_4, nh_4, pd_6, Nat.le_of_ble_eq_true rfl⟩
