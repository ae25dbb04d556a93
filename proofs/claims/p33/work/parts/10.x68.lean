set_option maxRecDepth 100000 in
theorem mv_X5_isLetter : sg_ok (.selects RX5 yX5_isLetter yX5_isLetter) := ⟨ts_3_208.1.2.2.2.1, rfl⟩
set_option maxRecDepth 100000 in
theorem ms_L_isLetterOrDigit : sg_ok (.static yL_isLetterOrDigit) := ⟨ts_3_224.1.1.1.1.2, rfl⟩
set_option maxRecDepth 100000 in
theorem ci_X5_isLetterOrDigit : sg_ok (.code yX5_isLetterOrDigit cX5_isLetterOrDigit 2 (some .boolean)) := ⟨ts_3_224.1.1.2.2.1, rfl⟩
theorem cb_X5_isLetterOrDigit : sg_cb mi_X5_isLetterOrDigit 1 := ⟨ci_X5_isLetterOrDigit, iz_0, nh_0, pd_4, Nat.le_of_ble_eq_true rfl⟩
set_option maxRecDepth 100000 in
theorem mn_X5_isLetterOrDigit : sg_ok (.instanceMethod yX5_isLetterOrDigit) := ⟨ts_3_224.1.1.2.1.1, rfl⟩
set_option maxRecDepth 100000 in
theorem mv_X5_isLetterOrDigit : sg_ok (.selects RX5 yX5_isLetterOrDigit yX5_isLetterOrDigit) := ⟨ts_3_224.1.1.2.1.2, rfl⟩
set_option maxRecDepth 100000 in
theorem ms_L_isWhite : sg_ok (.static yL_isWhite) := ⟨ts_3_224.1.2.1.1.1, rfl⟩
set_option maxRecDepth 100000 in
theorem ci_X5_isWhite : sg_ok (.code yX5_isWhite cX5_isWhite 2 (some .boolean)) := ⟨ts_3_224.1.2.2.1.2, rfl⟩
theorem cb_X5_isWhite : sg_cb mi_X5_isWhite 1 := ⟨ci_X5_isWhite, iz_0, nh_0, pd_4, Nat.le_of_ble_eq_true rfl⟩
set_option maxRecDepth 100000 in
theorem mn_X5_isWhite : sg_ok (.instanceMethod yX5_isWhite) := ⟨ts_3_224.1.2.1.2.2, rfl⟩
