set_option maxRecDepth 100000 in
theorem mn_X5_unit : sg_ok (.instanceMethod yX5_unit) := ⟨ts_5_192.1.1.2.2.1, rfl⟩
set_option maxRecDepth 100000 in
theorem mv_X5_unit : sg_ok (.selects RX5 yX5_unit yX5_unit) := ⟨ts_5_192.1.1.2.2.2, rfl⟩
set_option maxRecDepth 100000 in
theorem ms_L_codeAt : sg_ok (.static yL_codeAt) := ⟨ts_5_192.1.2.1.2.1, rfl⟩
set_option maxRecDepth 100000 in
theorem ci_X5_codeAt : sg_ok (.code yX5_codeAt cX5_codeAt 4 (some .int)) := ⟨ts_5_192.1.2.2.2.2, rfl⟩
theorem cb_X5_codeAt : sg_cb mi_X5_codeAt 2 := ⟨ci_X5_codeAt, iz_0, nh_0, pd_3, Nat.le_of_ble_eq_true rfl⟩
set_option maxRecDepth 100000 in
theorem mn_X5_codeAt : sg_ok (.instanceMethod yX5_codeAt) := ⟨ts_5_192.1.2.2.1.2, rfl⟩
set_option maxRecDepth 100000 in
theorem mv_X5_codeAt : sg_ok (.selects RX5 yX5_codeAt yX5_codeAt) := ⟨ts_5_192.1.2.2.2.1, rfl⟩
set_option maxRecDepth 100000 in
theorem ms_L_nth : sg_ok (.static yL_nth) := ⟨ts_5_208.1.1.1.1.2, rfl⟩
set_option maxRecDepth 100000 in
theorem ci_X5_nth : sg_ok (.code yX5_nth cX5_nth 5 (some .int)) := ⟨ts_5_208.1.1.2.2.1, rfl⟩
theorem cb_X5_nth : sg_cb mi_X5_nth 2 := ⟨ci_X5_nth, iz_0, nh_0, pd_3, Nat.le_of_ble_eq_true rfl⟩
