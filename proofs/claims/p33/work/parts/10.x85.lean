theorem pd_31 : (parseMethodDescriptor "(I[I)I").map (fun d => d.parameters.length) = some 2 := by decide +kernel
theorem cb_X7_set : sg_cb mi_X7_set 2 := ⟨ci_X7_set, iz_7, nh_7, pd_31, Nat.le_of_ble_eq_true rfl⟩
set_option maxRecDepth 100000 in
theorem mn_X7_set : sg_ok (.instanceMethod yX7_set) := ⟨ts_6_48.1.2.2.2.1, rfl⟩
theorem mv_X7_set : sg_ok (.selects RX7 yX7_set yX7_set) := sg_oks 8 (by decide +kernel)
set_option maxRecDepth 100000 in
theorem ci_X7_drop : sg_ok (.code yX7_drop cX7_drop 3 (some .int)) := ⟨ts_6_128.1.1.1.1.2, rfl⟩
theorem cb_X7_drop : sg_cb mi_X7_drop 2 := ⟨ci_X7_drop, iz_7, nh_7, pd_3, Nat.le_of_ble_eq_true rfl⟩
set_option maxRecDepth 100000 in
theorem mn_X7_drop : sg_ok (.instanceMethod yX7_drop) := ⟨ts_6_112.1.2.2.2.2, rfl⟩
set_option maxRecDepth 100000 in
theorem mv_X7_drop : sg_ok (.selects RX7 yX7_drop yX7_drop) := ⟨ts_6_128.1.1.1.1.1, rfl⟩
set_option maxRecDepth 100000 in
theorem ci_X7_part : sg_ok (.code yX7_part cX7_part 5 (some (.array .int))) := ⟨ts_6_128.1.1.2.1.1, rfl⟩
theorem pd_32 : (parseMethodDescriptor "([III)[I").map (fun d => d.parameters.length) = some 3 := by decide +kernel
theorem cb_X7_part : sg_cb mi_X7_part 3 := ⟨ci_X7_part, iz_7, nh_7, pd_32, Nat.le_of_ble_eq_true rfl⟩
set_option maxRecDepth 100000 in
theorem ms_X7_part : sg_ok (.static yX7_part) := ⟨ts_6_128.1.1.1.2.2, rfl⟩
