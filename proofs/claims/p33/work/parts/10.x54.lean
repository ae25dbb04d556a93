theorem cb_X5_addLaid : sg_cb mi_X5_addLaid 2 := ⟨ci_X5_addLaid, iz_0, nh_0, pd_20, Nat.le_of_ble_eq_true rfl⟩
set_option maxRecDepth 100000 in
theorem ms_X5_addLaid : sg_ok (.static yX5_addLaid) := ⟨ts_3_16.1.2.2.2.1, rfl⟩
set_option maxRecDepth 100000 in
theorem ms_L_drop : sg_ok (.static yL_drop) := ⟨ts_3_32.1.1.1.2.1, rfl⟩
set_option maxRecDepth 100000 in
theorem ci_X5_drop : sg_ok (.code yX5_drop cX5_drop 3 (some .int)) := ⟨ts_3_32.1.1.2.2.2, rfl⟩
theorem cb_X5_drop : sg_cb mi_X5_drop 2 := ⟨ci_X5_drop, iz_0, nh_0, pd_3, Nat.le_of_ble_eq_true rfl⟩
set_option maxRecDepth 100000 in
theorem mn_X5_drop : sg_ok (.instanceMethod yX5_drop) := ⟨ts_3_32.1.1.2.1.2, rfl⟩
set_option maxRecDepth 100000 in
theorem mv_X5_drop : sg_ok (.selects RX5 yX5_drop yX5_drop) := ⟨ts_3_32.1.1.2.2.1, rfl⟩
set_option maxRecDepth 100000 in
theorem ci_X5_shorten : sg_ok (.code yX5_shorten cX5_shorten 3 (some .int)) := ⟨ts_3_32.1.2.1.2.2, rfl⟩
theorem cb_X5_shorten : sg_cb mi_X5_shorten 2 := ⟨ci_X5_shorten, iz_0, nh_0, pd_12, Nat.le_of_ble_eq_true rfl⟩
set_option maxRecDepth 100000 in
theorem mn_X5_shorten : sg_ok (.instanceMethod yX5_shorten) := ⟨ts_3_32.1.2.1.2.1, rfl⟩
theorem mv_X5_shorten : sg_ok (.selects RX5 yX5_shorten yX5_shorten) := sg_oks 5 (by decide +kernel)
