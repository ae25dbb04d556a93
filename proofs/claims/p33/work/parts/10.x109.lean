set_option maxRecDepth 100000 in
theorem ci_X7_isAlike : sg_ok (.code yX7_isAlike cX7_isAlike 3 (some .boolean)) := ⟨ts_7_176.1.1.2.1.2, rfl⟩
theorem cb_X7_isAlike : sg_cb mi_X7_isAlike 2 := ⟨ci_X7_isAlike, iz_7, nh_7, pd_10, Nat.le_of_ble_eq_true rfl⟩
set_option maxRecDepth 100000 in
theorem mn_X7_isAlike : sg_ok (.instanceMethod yX7_isAlike) := ⟨ts_7_176.1.1.1.2.2, rfl⟩
set_option maxRecDepth 100000 in
theorem mv_X7_isAlike : sg_ok (.selects RX7 yX7_isAlike yX7_isAlike) := ⟨ts_7_176.1.1.2.1.1, rfl⟩
set_option maxRecDepth 100000 in
theorem ci_X7_areAlike : sg_ok (.code yX7_areAlike cX7_areAlike 5 (some .boolean)) := ⟨ts_7_176.1.2.1.1.2, rfl⟩
theorem cb_X7_areAlike : sg_cb mi_X7_areAlike 2 := ⟨ci_X7_areAlike, iz_7, nh_7, pd_10, Nat.le_of_ble_eq_true rfl⟩
set_option maxRecDepth 100000 in
theorem mn_X7_areAlike : sg_ok (.instanceMethod yX7_areAlike) := ⟨ts_7_176.1.2.1.1.1, rfl⟩
theorem mv_X7_areAlike : sg_ok (.selects RX7 yX7_areAlike yX7_areAlike) := sg_oks 22 (by decide +kernel)
set_option maxRecDepth 100000 in
theorem ci_X7_order : sg_ok (.code yX7_order cX7_order 3 (some .int)) := ⟨ts_7_176.1.2.2.1.2, rfl⟩
theorem cb_X7_order : sg_cb mi_X7_order 2 := ⟨ci_X7_order, iz_7, nh_7, pd_3, Nat.le_of_ble_eq_true rfl⟩
set_option maxRecDepth 100000 in
theorem mn_X7_order : sg_ok (.instanceMethod yX7_order) := ⟨ts_7_176.1.2.1.2.2, rfl⟩
