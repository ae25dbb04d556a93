theorem mv_X7_codes : sg_ok (.selects RX7 yX7_codes yX7_codes) := sg_oks 15 (by decide +kernel)
set_option maxRecDepth 100000 in
theorem ci_X7_codeOf : sg_ok (.code yX7_codeOf cX7_codeOf 4 (some .int)) := ⟨ts_7_16.1.2.1.1.2, rfl⟩
theorem cb_X7_codeOf : sg_cb mi_X7_codeOf 2 := ⟨ci_X7_codeOf, iz_7, nh_7, pd_3, Nat.le_of_ble_eq_true rfl⟩
set_option maxRecDepth 100000 in
theorem mn_X7_codeOf : sg_ok (.instanceMethod yX7_codeOf) := ⟨ts_7_16.1.2.1.1.1, rfl⟩
theorem mv_X7_codeOf : sg_ok (.selects RX7 yX7_codeOf yX7_codeOf) := sg_oks 16 (by decide +kernel)
set_option maxRecDepth 100000 in
theorem ci_X7_both : sg_ok (.code yX7_both cX7_both 2 (some .int)) := ⟨ts_7_16.1.2.2.1.1, rfl⟩
theorem cb_X7_both : sg_cb mi_X7_both 2 := ⟨ci_X7_both, iz_7, nh_7, pd_3, Nat.le_of_ble_eq_true rfl⟩
set_option maxRecDepth 100000 in
theorem ms_X7_both : sg_ok (.static yX7_both) := ⟨ts_7_16.1.2.1.2.2, rfl⟩
set_option maxRecDepth 100000 in
theorem ci_X7_undo : sg_ok (.code yX7_undo cX7_undo 1 (some .int)) := ⟨ts_7_32.1.1.1.1.1, rfl⟩
theorem cb_X7_undo : sg_cb mi_X7_undo 0 := ⟨ci_X7_undo, iz_7, nh_7, pd_2, Nat.le_of_ble_eq_true rfl⟩
set_option maxRecDepth 100000 in
theorem mn_X7_undo : sg_ok (.instanceMethod yX7_undo) := ⟨ts_7_16.1.2.2.2.1, rfl⟩
set_option maxRecDepth 100000 in
theorem mv_X7_undo : sg_ok (.selects RX7 yX7_undo yX7_undo) := ⟨ts_7_16.1.2.2.2.2, rfl⟩
