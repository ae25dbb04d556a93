theorem mv_X7_kindTold : sg_ok (.selects RX7 yX7_kindTold yX7_kindTold) := sg_oks 17 (by decide +kernel)
set_option maxRecDepth 100000 in
theorem ci_X7_isLetter : sg_ok (.code yX7_isLetter cX7_isLetter 2 (some .boolean)) := ⟨ts_7_48.1.1.2.1.2, rfl⟩
theorem cb_X7_isLetter : sg_cb mi_X7_isLetter 1 := ⟨ci_X7_isLetter, iz_7, nh_7, pd_4, Nat.le_of_ble_eq_true rfl⟩
set_option maxRecDepth 100000 in
theorem mn_X7_isLetter : sg_ok (.instanceMethod yX7_isLetter) := ⟨ts_7_48.1.1.1.2.2, rfl⟩
set_option maxRecDepth 100000 in
theorem mv_X7_isLetter : sg_ok (.selects RX7 yX7_isLetter yX7_isLetter) := ⟨ts_7_48.1.1.2.1.1, rfl⟩
set_option maxRecDepth 100000 in
theorem ci_X7_isLetterOrDigit : sg_ok (.code yX7_isLetterOrDigit cX7_isLetterOrDigit 2 (some .boolean)) := ⟨ts_7_48.1.2.1.1.2, rfl⟩
theorem cb_X7_isLetterOrDigit : sg_cb mi_X7_isLetterOrDigit 1 := ⟨ci_X7_isLetterOrDigit, iz_7, nh_7, pd_4, Nat.le_of_ble_eq_true rfl⟩
set_option maxRecDepth 100000 in
theorem mn_X7_isLetterOrDigit : sg_ok (.instanceMethod yX7_isLetterOrDigit) := ⟨ts_7_48.1.1.2.2.2, rfl⟩
set_option maxRecDepth 100000 in
theorem mv_X7_isLetterOrDigit : sg_ok (.selects RX7 yX7_isLetterOrDigit yX7_isLetterOrDigit) := ⟨ts_7_48.1.2.1.1.1, rfl⟩
set_option maxRecDepth 100000 in
theorem ci_X7_isWhite : sg_ok (.code yX7_isWhite cX7_isWhite 2 (some .boolean)) := ⟨ts_7_48.1.2.2.1.2, rfl⟩
theorem cb_X7_isWhite : sg_cb mi_X7_isWhite 1 := ⟨ci_X7_isWhite, iz_7, nh_7, pd_4, Nat.le_of_ble_eq_true rfl⟩
