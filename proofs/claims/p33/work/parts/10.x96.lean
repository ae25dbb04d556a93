set_option maxRecDepth 100000 in
theorem ms_X7_isHigh : sg_ok (.static yX7_isHigh) := ⟨ts_7_0.1.1.2.2.2, rfl⟩
set_option maxRecDepth 100000 in
theorem ci_X7_isLow : sg_ok (.code yX7_isLow cX7_isLow 1 (some .boolean)) := ⟨ts_7_0.1.2.2.1.1, rfl⟩
theorem cb_X7_isLow : sg_cb mi_X7_isLow 1 := ⟨ci_X7_isLow, iz_7, nh_7, pd_4, Nat.le_of_ble_eq_true rfl⟩
set_option maxRecDepth 100000 in
theorem ms_X7_isLow : sg_ok (.static yX7_isLow) := ⟨ts_7_0.1.2.1.2.2, rfl⟩
set_option maxRecDepth 100000 in
theorem ci_X7_reverse : sg_ok (.code yX7_reverse cX7_reverse 7 (some .int)) := ⟨ts_7_16.1.1.1.1.2, rfl⟩
theorem cb_X7_reverse : sg_cb mi_X7_reverse 1 := ⟨ci_X7_reverse, iz_7, nh_7, pd_6, Nat.le_of_ble_eq_true rfl⟩
set_option maxRecDepth 100000 in
theorem mn_X7_reverse : sg_ok (.instanceMethod yX7_reverse) := ⟨ts_7_0.1.2.2.2.2, rfl⟩
set_option maxRecDepth 100000 in
theorem mv_X7_reverse : sg_ok (.selects RX7 yX7_reverse yX7_reverse) := ⟨ts_7_16.1.1.1.1.1, rfl⟩
set_option maxRecDepth 100000 in
theorem ci_X7_codes : sg_ok (.code yX7_codes cX7_codes 4 (some (.array .int))) := ⟨ts_7_16.1.1.2.1.2, rfl⟩
theorem cb_X7_codes : sg_cb mi_X7_codes 1 := ⟨ci_X7_codes, iz_7, nh_7, pd_35, Nat.le_of_ble_eq_true rfl⟩
set_option maxRecDepth 100000 in
theorem mn_X7_codes : sg_ok (.instanceMethod yX7_codes) := ⟨ts_7_16.1.1.2.1.1, rfl⟩
