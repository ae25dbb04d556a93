set_option maxRecDepth 100000 in
theorem ci_X7_kindsOf : sg_ok (.code yX7_kindsOf cX7_kindsOf 3 (some .int)) := ⟨ts_7_64.1.2.1.1.1, rfl⟩
theorem cb_X7_kindsOf : sg_cb mi_X7_kindsOf 1 := ⟨ci_X7_kindsOf, iz_7, nh_7, pd_6, Nat.le_of_ble_eq_true rfl⟩
set_option maxRecDepth 100000 in
theorem ms_X7_kindsOf : sg_ok (.static yX7_kindsOf) := ⟨ts_7_64.1.1.2.2.2, rfl⟩
set_option maxRecDepth 100000 in
theorem ci_X7_upper : sg_ok (.code yX7_upper cX7_upper 3 (some .int)) := ⟨ts_7_64.1.2.2.1.1, rfl⟩
theorem cb_X7_upper : sg_cb mi_X7_upper 2 := ⟨ci_X7_upper, iz_7, nh_7, pd_25, Nat.le_of_ble_eq_true rfl⟩
set_option maxRecDepth 100000 in
theorem mn_X7_upper : sg_ok (.instanceMethod yX7_upper) := ⟨ts_7_64.1.2.1.2.1, rfl⟩
set_option maxRecDepth 100000 in
theorem mv_X7_upper : sg_ok (.selects RX7 yX7_upper yX7_upper) := ⟨ts_7_64.1.2.1.2.2, rfl⟩
set_option maxRecDepth 100000 in
theorem ci_X7_lower : sg_ok (.code yX7_lower cX7_lower 3 (some .int)) := ⟨ts_7_80.1.1.1.1.1, rfl⟩
theorem cb_X7_lower : sg_cb mi_X7_lower 2 := ⟨ci_X7_lower, iz_7, nh_7, pd_25, Nat.le_of_ble_eq_true rfl⟩
set_option maxRecDepth 100000 in
theorem mn_X7_lower : sg_ok (.instanceMethod yX7_lower) := ⟨ts_7_64.1.2.2.2.1, rfl⟩
set_option maxRecDepth 100000 in
theorem mv_X7_lower : sg_ok (.selects RX7 yX7_lower yX7_lower) := ⟨ts_7_64.1.2.2.2.2, rfl⟩
