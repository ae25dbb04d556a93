set_option maxRecDepth 100000 in
theorem mv_X7_order : sg_ok (.selects RX7 yX7_order yX7_order) := ⟨ts_7_176.1.2.2.1.1, rfl⟩
set_option maxRecDepth 100000 in
theorem ci_X7_orderOf : sg_ok (.code yX7_orderOf cX7_orderOf 4 (some .int)) := ⟨ts_7_192.1.1.1.1.2, rfl⟩
theorem pd_37 : (parseMethodDescriptor "([I[I)I").map (fun d => d.parameters.length) = some 2 := by decide +kernel
theorem cb_X7_orderOf : sg_cb mi_X7_orderOf 2 := ⟨ci_X7_orderOf, iz_7, nh_7, pd_37, Nat.le_of_ble_eq_true rfl⟩
set_option maxRecDepth 100000 in
theorem mn_X7_orderOf : sg_ok (.instanceMethod yX7_orderOf) := ⟨ts_7_192.1.1.1.1.1, rfl⟩
theorem mv_X7_orderOf : sg_ok (.selects RX7 yX7_orderOf yX7_orderOf) := sg_oks 23 (by decide +kernel)
set_option maxRecDepth 100000 in
theorem ci_X7_isCode : sg_ok (.code yX7_isCode cX7_isCode 2 (some .boolean)) := ⟨ts_7_192.1.1.2.1.2, rfl⟩
theorem cb_X7_isCode : sg_cb mi_X7_isCode 1 := ⟨ci_X7_isCode, iz_7, nh_7, pd_4, Nat.le_of_ble_eq_true rfl⟩
set_option maxRecDepth 100000 in
theorem mn_X7_isCode : sg_ok (.instanceMethod yX7_isCode) := ⟨ts_7_192.1.1.1.2.2, rfl⟩
set_option maxRecDepth 100000 in
theorem mv_X7_isCode : sg_ok (.selects RX7 yX7_isCode yX7_isCode) := ⟨ts_7_192.1.1.2.1.1, rfl⟩
set_option maxRecDepth 100000 in
theorem ci_X7_isPlain : sg_ok (.code yX7_isPlain cX7_isPlain 2 (some .boolean)) := ⟨ts_7_192.1.2.1.1.2, rfl⟩
