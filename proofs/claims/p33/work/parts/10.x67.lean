set_option maxRecDepth 100000 in
theorem mv_X1_bringBack : sg_ok (.selects RX1 yX1_bringBack yX1_bringBack) := ⟨ts_3_208.1.1.1.1.1, rfl⟩
set_option maxRecDepth 100000 in
theorem ms_L_isDigit : sg_ok (.static yL_isDigit) := ⟨ts_3_208.1.1.1.2.2, rfl⟩
set_option maxRecDepth 100000 in
theorem ci_X5_isDigit : sg_ok (.code yX5_isDigit cX5_isDigit 2 (some .boolean)) := ⟨ts_3_208.1.2.1.1.1, rfl⟩
theorem cb_X5_isDigit : sg_cb mi_X5_isDigit 1 := ⟨ci_X5_isDigit, iz_0, nh_0, pd_4, Nat.le_of_ble_eq_true rfl⟩
set_option maxRecDepth 100000 in
theorem mn_X5_isDigit : sg_ok (.instanceMethod yX5_isDigit) := ⟨ts_3_208.1.1.2.2.1, rfl⟩
set_option maxRecDepth 100000 in
theorem mv_X5_isDigit : sg_ok (.selects RX5 yX5_isDigit yX5_isDigit) := ⟨ts_3_208.1.1.2.2.2, rfl⟩
set_option maxRecDepth 100000 in
theorem ms_L_isLetter : sg_ok (.static yL_isLetter) := ⟨ts_3_208.1.2.1.2.1, rfl⟩
set_option maxRecDepth 100000 in
theorem ci_X5_isLetter : sg_ok (.code yX5_isLetter cX5_isLetter 2 (some .boolean)) := ⟨ts_3_208.1.2.2.2.2, rfl⟩
theorem cb_X5_isLetter : sg_cb mi_X5_isLetter 1 := ⟨ci_X5_isLetter, iz_0, nh_0, pd_4, Nat.le_of_ble_eq_true rfl⟩
set_option maxRecDepth 100000 in
theorem mn_X5_isLetter : sg_ok (.instanceMethod yX5_isLetter) := ⟨ts_3_208.1.2.2.1.2, rfl⟩
