set_option maxRecDepth 100000 in
theorem ci_X7_isNoKind : sg_ok (.code yX7_isNoKind cX7_isNoKind 1 (some .boolean)) := ⟨ts_6_160.1.2.1.1.2, rfl⟩
theorem cb_X7_isNoKind : sg_cb mi_X7_isNoKind 1 := ⟨ci_X7_isNoKind, iz_7, nh_7, pd_4, Nat.le_of_ble_eq_true rfl⟩
set_option maxRecDepth 100000 in
theorem ms_X7_isNoKind : sg_ok (.static yX7_isNoKind) := ⟨ts_6_160.1.2.1.1.1, rfl⟩
set_option maxRecDepth 100000 in
theorem ci_X7_strip : sg_ok (.code yX7_strip cX7_strip 5 (some .int)) := ⟨ts_6_160.1.2.2.1.2, rfl⟩
theorem cb_X7_strip : sg_cb mi_X7_strip 1 := ⟨ci_X7_strip, iz_7, nh_7, pd_6, Nat.le_of_ble_eq_true rfl⟩
set_option maxRecDepth 100000 in
theorem mn_X7_strip : sg_ok (.instanceMethod yX7_strip) := ⟨ts_6_160.1.2.1.2.2, rfl⟩
set_option maxRecDepth 100000 in
theorem mv_X7_strip : sg_ok (.selects RX7 yX7_strip yX7_strip) := ⟨ts_6_160.1.2.2.1.1, rfl⟩
set_option maxRecDepth 100000 in
theorem ci_X7_turn : sg_ok (.code yX7_turn cX7_turn 2 (some .int)) := ⟨ts_6_176.1.1.1.1.2, rfl⟩
theorem cb_X7_turn : sg_cb mi_X7_turn 1 := ⟨ci_X7_turn, iz_7, nh_7, pd_6, Nat.le_of_ble_eq_true rfl⟩
set_option maxRecDepth 100000 in
theorem mn_X7_turn : sg_ok (.instanceMethod yX7_turn) := ⟨ts_6_160.1.2.2.2.2, rfl⟩
set_option maxRecDepth 100000 in
theorem mv_X7_turn : sg_ok (.selects RX7 yX7_turn yX7_turn) := ⟨ts_6_176.1.1.1.1.1, rfl⟩
