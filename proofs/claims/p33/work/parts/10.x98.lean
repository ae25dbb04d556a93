set_option maxRecDepth 100000 in
theorem ci_X7_knock : sg_ok (.code yX7_knock cX7_knock 1 (some .int)) := ⟨ts_7_32.1.2.1.1.2, rfl⟩
theorem cb_X7_knock : sg_cb mi_X7_knock 0 := ⟨ci_X7_knock, iz_7, nh_7, pd_2, Nat.le_of_ble_eq_true rfl⟩
set_option maxRecDepth 100000 in
theorem mn_X7_knock : sg_ok (.instanceMethod yX7_knock) := ⟨ts_7_32.1.1.2.2.2, rfl⟩
set_option maxRecDepth 100000 in
theorem mv_X7_knock : sg_ok (.selects RX7 yX7_knock yX7_knock) := ⟨ts_7_32.1.2.1.1.1, rfl⟩
set_option maxRecDepth 100000 in
theorem ci_X7_isDigit : sg_ok (.code yX7_isDigit cX7_isDigit 2 (some .boolean)) := ⟨ts_7_32.1.2.2.1.2, rfl⟩
theorem cb_X7_isDigit : sg_cb mi_X7_isDigit 1 := ⟨ci_X7_isDigit, iz_7, nh_7, pd_4, Nat.le_of_ble_eq_true rfl⟩
set_option maxRecDepth 100000 in
theorem mn_X7_isDigit : sg_ok (.instanceMethod yX7_isDigit) := ⟨ts_7_32.1.2.1.2.2, rfl⟩
set_option maxRecDepth 100000 in
theorem mv_X7_isDigit : sg_ok (.selects RX7 yX7_isDigit yX7_isDigit) := ⟨ts_7_32.1.2.2.1.1, rfl⟩
set_option maxRecDepth 100000 in
theorem ci_X7_kindTold : sg_ok (.code yX7_kindTold cX7_kindTold 3 (some .boolean)) := ⟨ts_7_48.1.1.1.1.2, rfl⟩
theorem cb_X7_kindTold : sg_cb mi_X7_kindTold 2 := ⟨ci_X7_kindTold, iz_7, nh_7, pd_10, Nat.le_of_ble_eq_true rfl⟩
set_option maxRecDepth 100000 in
theorem mn_X7_kindTold : sg_ok (.instanceMethod yX7_kindTold) := ⟨ts_7_48.1.1.1.1.1, rfl⟩
