set_option maxRecDepth 100000 in
theorem ci_X7_copy : sg_ok (.code yX7_copy cX7_copy 4 (some .int)) := ⟨ts_6_128.1.2.1.1.1, rfl⟩
theorem cb_X7_copy : sg_cb mi_X7_copy 2 := ⟨ci_X7_copy, iz_7, nh_7, pd_3, Nat.le_of_ble_eq_true rfl⟩
set_option maxRecDepth 100000 in
theorem mn_X7_copy : sg_ok (.instanceMethod yX7_copy) := ⟨ts_6_128.1.1.2.2.1, rfl⟩
set_option maxRecDepth 100000 in
theorem mv_X7_copy : sg_ok (.selects RX7 yX7_copy yX7_copy) := ⟨ts_6_128.1.1.2.2.2, rfl⟩
set_option maxRecDepth 100000 in
theorem ci_X7_raise : sg_ok (.code yX7_raise cX7_raise 2 (some .int)) := ⟨ts_6_128.1.2.2.1.1, rfl⟩
theorem cb_X7_raise : sg_cb mi_X7_raise 1 := ⟨ci_X7_raise, iz_7, nh_7, pd_6, Nat.le_of_ble_eq_true rfl⟩
set_option maxRecDepth 100000 in
theorem mn_X7_raise : sg_ok (.instanceMethod yX7_raise) := ⟨ts_6_128.1.2.1.2.1, rfl⟩
set_option maxRecDepth 100000 in
theorem mv_X7_raise : sg_ok (.selects RX7 yX7_raise yX7_raise) := ⟨ts_6_128.1.2.1.2.2, rfl⟩
set_option maxRecDepth 100000 in
theorem ci_X7_cased : sg_ok (.code yX7_cased cX7_cased 8 (some .int)) := ⟨ts_6_144.1.1.1.1.1, rfl⟩
theorem cb_X7_cased : sg_cb mi_X7_cased 2 := ⟨ci_X7_cased, iz_7, nh_7, pd_25, Nat.le_of_ble_eq_true rfl⟩
set_option maxRecDepth 100000 in
theorem mn_X7_cased : sg_ok (.instanceMethod yX7_cased) := ⟨ts_6_128.1.2.2.2.2, rfl⟩
