theorem cb_X7_refuse : sg_cb mi_X7_refuse 2 := ⟨ci_X7_refuse, iz_7, nh_7, pd_28, Nat.le_of_ble_eq_true rfl⟩
set_option maxRecDepth 100000 in
theorem mn_X7_refuse : sg_ok (.instanceMethod yX7_refuse) := ⟨ts_6_48.1.1.2.1.1, rfl⟩
theorem mv_X7_refuse : sg_ok (.selects RX7 yX7_refuse yX7_refuse) := sg_oks 7 (by decide +kernel)
set_option maxRecDepth 100000 in
theorem ci_X7_only : sg_ok (.code yX7_only cX7_only 4 (some (.array .int))) := ⟨ts_6_48.1.2.1.1.1, rfl⟩
theorem pd_29 : (parseMethodDescriptor "([I[Z)[I").map (fun d => d.parameters.length) = some 2 := by decide +kernel
theorem cb_X7_only : sg_cb mi_X7_only 2 := ⟨ci_X7_only, iz_7, nh_7, pd_29, Nat.le_of_ble_eq_true rfl⟩
set_option maxRecDepth 100000 in
theorem ms_X7_only : sg_ok (.static yX7_only) := ⟨ts_6_48.1.1.2.2.2, rfl⟩
set_option maxRecDepth 100000 in
theorem ci_X7_joined : sg_ok (.code yX7_joined cX7_joined 4 (some (.array .int))) := ⟨ts_6_48.1.2.1.2.2, rfl⟩
theorem pd_30 : (parseMethodDescriptor "([I[I)[I").map (fun d => d.parameters.length) = some 2 := by decide +kernel
theorem cb_X7_joined : sg_cb mi_X7_joined 2 := ⟨ci_X7_joined, iz_7, nh_7, pd_30, Nat.le_of_ble_eq_true rfl⟩
set_option maxRecDepth 100000 in
theorem ms_X7_joined : sg_ok (.static yX7_joined) := ⟨ts_6_48.1.2.1.2.1, rfl⟩
set_option maxRecDepth 100000 in
theorem ci_X7_set : sg_ok (.code yX7_set cX7_set 5 (some .int)) := ⟨ts_6_48.1.2.2.2.2, rfl⟩
