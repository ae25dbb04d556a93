set_option maxRecDepth 100000 in
theorem ci_X4_isCodeBegin : sg_ok (.code yX4_isCodeBegin cX4_isCodeBegin 2 (some .boolean)) := ⟨ts_2_32.1.2.2.2.1, rfl⟩
theorem pd_11 : (parseMethodDescriptor "(LSignkinds$Line;I)Z").map (fun d => d.parameters.length) = some 2 := by decide +kernel
theorem cb_X4_isCodeBegin : sg_cb mi_X4_isCodeBegin 2 := ⟨ci_X4_isCodeBegin, iz_5, nh_5, pd_11, Nat.le_of_ble_eq_true rfl⟩
set_option maxRecDepth 100000 in
theorem ms_X4_isCodeBegin : sg_ok (.static yX4_isCodeBegin) := ⟨ts_2_32.1.2.2.1.2, rfl⟩
set_option maxRecDepth 100000 in
theorem ci_X4_isLow : sg_ok (.code yX4_isLow cX4_isLow 1 (some .boolean)) := ⟨ts_2_48.1.1.1.2.1, rfl⟩
theorem cb_X4_isLow : sg_cb mi_X4_isLow 1 := ⟨ci_X4_isLow, iz_5, nh_5, pd_4, Nat.le_of_ble_eq_true rfl⟩
set_option maxRecDepth 100000 in
theorem ms_X4_isLow : sg_ok (.static yX4_isLow) := ⟨ts_2_48.1.1.1.1.2, rfl⟩
set_option maxRecDepth 100000 in
theorem ci_X4_isHigh : sg_ok (.code yX4_isHigh cX4_isHigh 1 (some .boolean)) := ⟨ts_2_48.1.1.2.2.2, rfl⟩
theorem cb_X4_isHigh : sg_cb mi_X4_isHigh 1 := ⟨ci_X4_isHigh, iz_5, nh_5, pd_4, Nat.le_of_ble_eq_true rfl⟩
set_option maxRecDepth 100000 in
theorem ms_X4_isHigh : sg_ok (.static yX4_isHigh) := ⟨ts_2_48.1.1.2.2.1, rfl⟩
set_option maxRecDepth 100000 in
theorem ci_X4_codeFrom : sg_ok (.code yX4_codeFrom cX4_codeFrom 3 (some .int)) := ⟨ts_2_48.1.2.1.2.2, rfl⟩
