set_option maxRecDepth 100000 in
theorem ci_X7_last : sg_ok (.code yX7_last cX7_last 5 (some .int)) := ⟨ts_7_112.1.1.2.1.1, rfl⟩
theorem cb_X7_last : sg_cb mi_X7_last 2 := ⟨ci_X7_last, iz_7, nh_7, pd_3, Nat.le_of_ble_eq_true rfl⟩
set_option maxRecDepth 100000 in
theorem mn_X7_last : sg_ok (.instanceMethod yX7_last) := ⟨ts_7_112.1.1.1.2.1, rfl⟩
set_option maxRecDepth 100000 in
theorem mv_X7_last : sg_ok (.selects RX7 yX7_last yX7_last) := ⟨ts_7_112.1.1.1.2.2, rfl⟩
set_option maxRecDepth 100000 in
theorem ci_X7_forms : sg_ok (.code yX7_forms cX7_forms 7 (some (.object "java/lang/String"))) := ⟨ts_7_112.1.2.1.1.1, rfl⟩
theorem cb_X7_forms : sg_cb mi_X7_forms 1 := ⟨ci_X7_forms, iz_7, nh_7, pd_26, Nat.le_of_ble_eq_true rfl⟩
set_option maxRecDepth 100000 in
theorem mn_X7_forms : sg_ok (.instanceMethod yX7_forms) := ⟨ts_7_112.1.1.2.2.1, rfl⟩
set_option maxRecDepth 100000 in
theorem mv_X7_forms : sg_ok (.selects RX7 yX7_forms yX7_forms) := ⟨ts_7_112.1.1.2.2.2, rfl⟩
set_option maxRecDepth 100000 in
theorem ci_X7_spelled : sg_ok (.code yX7_spelled cX7_spelled 7 (some (.object "java/lang/String"))) := ⟨ts_7_128.1.1.2.2.1, rfl⟩
theorem cb_X7_spelled : sg_cb mi_X7_spelled 1 := ⟨ci_X7_spelled, iz_7, nh_7, pd_26, Nat.le_of_ble_eq_true rfl⟩
set_option maxRecDepth 100000 in
theorem mn_X7_spelled : sg_ok (.instanceMethod yX7_spelled) := ⟨ts_7_128.1.1.2.1.1, rfl⟩
