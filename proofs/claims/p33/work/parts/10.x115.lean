set_option maxRecDepth 100000 in
theorem mn_X7_isNoPlace : sg_ok (.instanceMethod yX7_isNoPlace) := ⟨ts_8_0.1.1.1.2.2, rfl⟩
theorem mv_X7_isNoPlace : sg_ok (.selects RX7 yX7_isNoPlace yX7_isNoPlace) := sg_oks 25 (by decide +kernel)
set_option maxRecDepth 100000 in
theorem ci_X7_codeAt : sg_ok (.code yX7_codeAt cX7_codeAt 3 (some .int)) := ⟨ts_8_0.1.2.1.1.1, rfl⟩
theorem cb_X7_codeAt : sg_cb mi_X7_codeAt 2 := ⟨ci_X7_codeAt, iz_7, nh_7, pd_3, Nat.le_of_ble_eq_true rfl⟩
set_option maxRecDepth 100000 in
theorem mn_X7_codeAt : sg_ok (.instanceMethod yX7_codeAt) := ⟨ts_8_0.1.1.2.2.1, rfl⟩
set_option maxRecDepth 100000 in
theorem mv_X7_codeAt : sg_ok (.selects RX7 yX7_codeAt yX7_codeAt) := ⟨ts_8_0.1.1.2.2.2, rfl⟩
set_option maxRecDepth 100000 in
theorem ci_X7_nth : sg_ok (.code yX7_nth cX7_nth 3 (some .int)) := ⟨ts_8_0.1.2.2.1.1, rfl⟩
theorem cb_X7_nth : sg_cb mi_X7_nth 2 := ⟨ci_X7_nth, iz_7, nh_7, pd_3, Nat.le_of_ble_eq_true rfl⟩
set_option maxRecDepth 100000 in
theorem mn_X7_nth : sg_ok (.instanceMethod yX7_nth) := ⟨ts_8_0.1.2.1.2.1, rfl⟩
set_option maxRecDepth 100000 in
theorem mv_X7_nth : sg_ok (.selects RX7 yX7_nth yX7_nth) := ⟨ts_8_0.1.2.1.2.2, rfl⟩
set_option maxRecDepth 100000 in
theorem ci_X7_house : sg_ok (.code yX7_house cX7_house 2 (some .int)) := ⟨ts_8_16.1.1.1.1.1, rfl⟩
