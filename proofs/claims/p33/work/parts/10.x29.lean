set_option maxRecDepth 100000 in
theorem iz_4 : sg_ok (.initialized RX2) := ⟨ts_1_0.1.2.2.2.1, rfl⟩
set_option maxRecDepth 100000 in
theorem ci_X2_digitOf : sg_ok (.code yX2_digitOf cX2_digitOf 2 (some .int)) := ⟨ts_1_96.1.2.2.2.1, rfl⟩
theorem nh_4 : RX2 ≠ "java/lang/invoke/MethodHandle" ∧ RX2 ≠ "java/lang/invoke/VarHandle" := ⟨by decide +kernel, by decide +kernel⟩
theorem cb_X2_digitOf : sg_cb mi_X2_digitOf 2 := ⟨ci_X2_digitOf, iz_4, nh_4, pd_3, Nat.le_of_ble_eq_true rfl⟩
set_option maxRecDepth 100000 in
theorem ms_X2_digitOf : sg_ok (.static yX2_digitOf) := ⟨ts_1_96.1.2.2.1.2, rfl⟩
set_option maxRecDepth 100000 in
theorem ci_X2_isRadix : sg_ok (.code yX2_isRadix cX2_isRadix 1 (some .boolean)) := ⟨ts_1_112.1.1.1.1.2, rfl⟩
theorem pd_4 : (parseMethodDescriptor "(I)Z").map (fun d => d.parameters.length) = some 1 := by decide +kernel
theorem cb_X2_isRadix : sg_cb mi_X2_isRadix 1 := ⟨ci_X2_isRadix, iz_4, nh_4, pd_4, Nat.le_of_ble_eq_true rfl⟩
set_option maxRecDepth 100000 in
theorem ms_X2_isRadix : sg_ok (.static yX2_isRadix) := ⟨ts_1_112.1.1.1.1.1, rfl⟩
set_option maxRecDepth 100000 in
theorem ci_X2_isBetween : sg_ok (.code yX2_isBetween cX2_isBetween 3 (some .boolean)) := ⟨ts_1_112.1.1.2.1.1, rfl⟩
theorem pd_5 : (parseMethodDescriptor "(III)Z").map (fun d => d.parameters.length) = some 3 := by decide +kernel
theorem cb_X2_isBetween : sg_cb mi_X2_isBetween 3 := ⟨ci_X2_isBetween, iz_4, nh_4, pd_5, Nat.le_of_ble_eq_true rfl⟩
