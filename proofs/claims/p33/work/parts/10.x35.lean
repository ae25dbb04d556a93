set_option maxRecDepth 100000 in
theorem mv_X0_hasPlace : sg_ok (.selects RX0 yX0_hasPlace yX0_hasPlace) := ⟨ts_1_224.1.2.2.1.1, rfl⟩
set_option maxRecDepth 100000 in
theorem ci_X2_isSoundSign : sg_ok (.code yX2_isSoundSign cX2_isSoundSign 4 (some .boolean)) := ⟨ts_2_0.1.1.1.1.1, rfl⟩
theorem cb_X2_isSoundSign : sg_cb mi_X2_isSoundSign 1 := ⟨ci_X2_isSoundSign, iz_4, nh_4, pd_4, Nat.le_of_ble_eq_true rfl⟩
set_option maxRecDepth 100000 in
theorem ms_X2_isSoundSign : sg_ok (.static yX2_isSoundSign) := ⟨ts_1_224.1.2.2.2.2, rfl⟩
set_option maxRecDepth 100000 in
theorem ci_X2_isOf : sg_ok (.code yX2_isOf cX2_isOf 2 (some .boolean)) := ⟨ts_2_0.1.1.1.2.2, rfl⟩
theorem pd_10 : (parseMethodDescriptor "(II)Z").map (fun d => d.parameters.length) = some 2 := by decide +kernel
theorem cb_X2_isOf : sg_cb mi_X2_isOf 2 := ⟨ci_X2_isOf, iz_4, nh_4, pd_10, Nat.le_of_ble_eq_true rfl⟩
set_option maxRecDepth 100000 in
theorem ms_X2_isOf : sg_ok (.static yX2_isOf) := ⟨ts_2_0.1.1.1.2.1, rfl⟩
set_option maxRecDepth 100000 in
theorem ci_X2_isPlainDigit : sg_ok (.code yX2_isPlainDigit cX2_isPlainDigit 1 (some .boolean)) := ⟨ts_2_0.1.1.2.2.1, rfl⟩
theorem cb_X2_isPlainDigit : sg_cb mi_X2_isPlainDigit 1 := ⟨ci_X2_isPlainDigit, iz_4, nh_4, pd_4, Nat.le_of_ble_eq_true rfl⟩
set_option maxRecDepth 100000 in
theorem ms_X2_isPlainDigit : sg_ok (.static yX2_isPlainDigit) := ⟨ts_2_0.1.1.2.1.2, rfl⟩
