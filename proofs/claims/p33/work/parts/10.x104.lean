theorem cb_X7_count : sg_cb mi_X7_count 2 := ⟨ci_X7_count, iz_7, nh_7, pd_3, Nat.le_of_ble_eq_true rfl⟩
set_option maxRecDepth 100000 in
theorem mn_X7_count : sg_ok (.instanceMethod yX7_count) := ⟨ts_7_96.1.1.2.2.1, rfl⟩
set_option maxRecDepth 100000 in
theorem mv_X7_count : sg_ok (.selects RX7 yX7_count yX7_count) := ⟨ts_7_96.1.1.2.2.2, rfl⟩
set_option maxRecDepth 100000 in
theorem ci_X7_countOf : sg_ok (.code yX7_countOf cX7_countOf 8 (some .int)) := ⟨ts_7_96.1.2.2.1.1, rfl⟩
theorem cb_X7_countOf : sg_cb mi_X7_countOf 2 := ⟨ci_X7_countOf, iz_7, nh_7, pd_3, Nat.le_of_ble_eq_true rfl⟩
set_option maxRecDepth 100000 in
theorem mn_X7_countOf : sg_ok (.instanceMethod yX7_countOf) := ⟨ts_7_96.1.2.1.2.2, rfl⟩
theorem mv_X7_countOf : sg_ok (.selects RX7 yX7_countOf yX7_countOf) := sg_oks 18 (by decide +kernel)
set_option maxRecDepth 100000 in
theorem ci_X7_first : sg_ok (.code yX7_first cX7_first 5 (some .int)) := ⟨ts_7_112.1.1.1.1.1, rfl⟩
theorem cb_X7_first : sg_cb mi_X7_first 3 := ⟨ci_X7_first, iz_7, nh_7, pd_23, Nat.le_of_ble_eq_true rfl⟩
set_option maxRecDepth 100000 in
theorem mn_X7_first : sg_ok (.instanceMethod yX7_first) := ⟨ts_7_96.1.2.2.2.1, rfl⟩
set_option maxRecDepth 100000 in
theorem mv_X7_first : sg_ok (.selects RX7 yX7_first yX7_first) := ⟨ts_7_96.1.2.2.2.2, rfl⟩
