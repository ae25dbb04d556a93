set_option maxRecDepth 100000 in
theorem ci_X7_turned : sg_ok (.code yX7_turned cX7_turned 3 (some (.array .int))) := ⟨ts_6_176.1.1.2.1.1, rfl⟩
theorem pd_34 : (parseMethodDescriptor "([I)[I").map (fun d => d.parameters.length) = some 1 := by decide +kernel
theorem cb_X7_turned : sg_cb mi_X7_turned 1 := ⟨ci_X7_turned, iz_7, nh_7, pd_34, Nat.le_of_ble_eq_true rfl⟩
set_option maxRecDepth 100000 in
theorem ms_X7_turned : sg_ok (.static yX7_turned) := ⟨ts_6_176.1.1.1.2.2, rfl⟩
set_option maxRecDepth 100000 in
theorem ci_X7_write : sg_ok (.code yX7_write cX7_write 6 (some .int)) := ⟨ts_6_176.1.2.1.1.1, rfl⟩
theorem cb_X7_write : sg_cb mi_X7_write 3 := ⟨ci_X7_write, iz_7, nh_7, pd_23, Nat.le_of_ble_eq_true rfl⟩
set_option maxRecDepth 100000 in
theorem mn_X7_write : sg_ok (.instanceMethod yX7_write) := ⟨ts_6_176.1.1.2.2.1, rfl⟩
set_option maxRecDepth 100000 in
theorem mv_X7_write : sg_ok (.selects RX7 yX7_write yX7_write) := ⟨ts_6_176.1.1.2.2.2, rfl⟩
set_option maxRecDepth 100000 in
theorem ci_X7_isRadix : sg_ok (.code yX7_isRadix cX7_isRadix 1 (some .boolean)) := ⟨ts_6_176.1.2.2.1.1, rfl⟩
theorem cb_X7_isRadix : sg_cb mi_X7_isRadix 1 := ⟨ci_X7_isRadix, iz_7, nh_7, pd_4, Nat.le_of_ble_eq_true rfl⟩
set_option maxRecDepth 100000 in
theorem ms_X7_isRadix : sg_ok (.static yX7_isRadix) := ⟨ts_6_176.1.2.1.2.2, rfl⟩
