set_option maxRecDepth 100000 in
theorem ci_X7_value : sg_ok (.code yX7_value cX7_value 3 (some .int)) := ⟨ts_7_80.1.1.2.1.1, rfl⟩
theorem cb_X7_value : sg_cb mi_X7_value 2 := ⟨ci_X7_value, iz_7, nh_7, pd_25, Nat.le_of_ble_eq_true rfl⟩
set_option maxRecDepth 100000 in
theorem mn_X7_value : sg_ok (.instanceMethod yX7_value) := ⟨ts_7_80.1.1.1.2.1, rfl⟩
set_option maxRecDepth 100000 in
theorem mv_X7_value : sg_ok (.selects RX7 yX7_value yX7_value) := ⟨ts_7_80.1.1.1.2.2, rfl⟩
set_option maxRecDepth 100000 in
theorem ci_X7_number : sg_ok (.code yX7_number cX7_number 4 (some .int)) := ⟨ts_7_80.1.2.1.1.1, rfl⟩
theorem cb_X7_number : sg_cb mi_X7_number 3 := ⟨ci_X7_number, iz_7, nh_7, pd_22, Nat.le_of_ble_eq_true rfl⟩
set_option maxRecDepth 100000 in
theorem mn_X7_number : sg_ok (.instanceMethod yX7_number) := ⟨ts_7_80.1.1.2.2.1, rfl⟩
set_option maxRecDepth 100000 in
theorem mv_X7_number : sg_ok (.selects RX7 yX7_number yX7_number) := ⟨ts_7_80.1.1.2.2.2, rfl⟩
set_option maxRecDepth 100000 in
theorem ci_X7_digit : sg_ok (.code yX7_digit cX7_digit 3 (some .int)) := ⟨ts_7_80.1.2.2.1.1, rfl⟩
theorem cb_X7_digit : sg_cb mi_X7_digit 2 := ⟨ci_X7_digit, iz_7, nh_7, pd_3, Nat.le_of_ble_eq_true rfl⟩
set_option maxRecDepth 100000 in
theorem mn_X7_digit : sg_ok (.instanceMethod yX7_digit) := ⟨ts_7_80.1.2.1.2.1, rfl⟩
