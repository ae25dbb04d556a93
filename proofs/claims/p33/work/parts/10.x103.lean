set_option maxRecDepth 100000 in
theorem mv_X7_digit : sg_ok (.selects RX7 yX7_digit yX7_digit) := ⟨ts_7_80.1.2.1.2.2, rfl⟩
set_option maxRecDepth 100000 in
theorem ci_X7_length : sg_ok (.code yX7_length cX7_length 2 (some .int)) := ⟨ts_7_96.1.1.1.1.1, rfl⟩
theorem cb_X7_length : sg_cb mi_X7_length 1 := ⟨ci_X7_length, iz_7, nh_7, pd_6, Nat.le_of_ble_eq_true rfl⟩
set_option maxRecDepth 100000 in
theorem mn_X7_length : sg_ok (.instanceMethod yX7_length) := ⟨ts_7_80.1.2.2.2.1, rfl⟩
set_option maxRecDepth 100000 in
theorem mv_X7_length : sg_ok (.selects RX7 yX7_length yX7_length) := ⟨ts_7_80.1.2.2.2.2, rfl⟩
set_option maxRecDepth 100000 in
theorem ci_X7_at : sg_ok (.code yX7_at cX7_at 3 (some .int)) := ⟨ts_7_96.1.1.2.1.1, rfl⟩
theorem cb_X7_at : sg_cb mi_X7_at 2 := ⟨ci_X7_at, iz_7, nh_7, pd_3, Nat.le_of_ble_eq_true rfl⟩
set_option maxRecDepth 100000 in
theorem mn_X7_at : sg_ok (.instanceMethod yX7_at) := ⟨ts_7_96.1.1.1.2.1, rfl⟩
set_option maxRecDepth 100000 in
theorem mv_X7_at : sg_ok (.selects RX7 yX7_at yX7_at) := ⟨ts_7_96.1.1.1.2.2, rfl⟩
set_option maxRecDepth 100000 in
theorem ci_X7_count : sg_ok (.code yX7_count cX7_count 3 (some .int)) := ⟨ts_7_96.1.2.1.1.1, rfl⟩
