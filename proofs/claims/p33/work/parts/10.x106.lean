set_option maxRecDepth 100000 in
theorem mv_X7_spelled : sg_ok (.selects RX7 yX7_spelled yX7_spelled) := ⟨ts_7_128.1.1.2.1.2, rfl⟩
set_option maxRecDepth 100000 in
theorem ci_X7_told : sg_ok (.code yX7_told cX7_told 3 (some .int)) := ⟨ts_7_128.1.2.1.2.2, rfl⟩
theorem cb_X7_told : sg_cb mi_X7_told 2 := ⟨ci_X7_told, iz_7, nh_7, pd_3, Nat.le_of_ble_eq_true rfl⟩
set_option maxRecDepth 100000 in
theorem mn_X7_told : sg_ok (.instanceMethod yX7_told) := ⟨ts_7_128.1.2.1.1.2, rfl⟩
set_option maxRecDepth 100000 in
theorem mv_X7_told : sg_ok (.selects RX7 yX7_told yX7_told) := ⟨ts_7_128.1.2.1.2.1, rfl⟩
set_option maxRecDepth 100000 in
theorem ci_X7_toldOf : sg_ok (.code yX7_toldOf cX7_toldOf 9 (some .int)) := ⟨ts_7_128.1.2.2.2.2, rfl⟩
theorem cb_X7_toldOf : sg_cb mi_X7_toldOf 2 := ⟨ci_X7_toldOf, iz_7, nh_7, pd_3, Nat.le_of_ble_eq_true rfl⟩
set_option maxRecDepth 100000 in
theorem mn_X7_toldOf : sg_ok (.instanceMethod yX7_toldOf) := ⟨ts_7_128.1.2.2.2.1, rfl⟩
theorem mv_X7_toldOf : sg_ok (.selects RX7 yX7_toldOf yX7_toldOf) := sg_oks 19 (by decide +kernel)
set_option maxRecDepth 100000 in
theorem ci_X7_sum : sg_ok (.code yX7_sum cX7_sum 8 (some .int)) := ⟨ts_7_144.1.1.2.1.1, rfl⟩
theorem cb_X7_sum : sg_cb mi_X7_sum 2 := ⟨ci_X7_sum, iz_7, nh_7, pd_3, Nat.le_of_ble_eq_true rfl⟩
