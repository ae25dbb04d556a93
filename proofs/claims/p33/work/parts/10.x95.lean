theorem cb_X7_flip : sg_cb mi_X7_flip 1 := ⟨ci_X7_flip, iz_7, nh_7, pd_6, Nat.le_of_ble_eq_true rfl⟩
set_option maxRecDepth 100000 in
theorem mn_X7_flip : sg_ok (.instanceMethod yX7_flip) := ⟨ts_6_224.1.2.2.1.2, rfl⟩
set_option maxRecDepth 100000 in
theorem mv_X7_flip : sg_ok (.selects RX7 yX7_flip yX7_flip) := ⟨ts_6_224.1.2.2.2.1, rfl⟩
set_option maxRecDepth 100000 in
theorem ci_X7_turnedUnit : sg_ok (.code yX7_turnedUnit cX7_turnedUnit 1 (some .int)) := ⟨ts_7_0.1.1.1.2.1, rfl⟩
theorem cb_X7_turnedUnit : sg_cb mi_X7_turnedUnit 1 := ⟨ci_X7_turnedUnit, iz_7, nh_7, pd_6, Nat.le_of_ble_eq_true rfl⟩
set_option maxRecDepth 100000 in
theorem ms_X7_turnedUnit : sg_ok (.static yX7_turnedUnit) := ⟨ts_7_0.1.1.1.1.2, rfl⟩
set_option maxRecDepth 100000 in
theorem ci_X7_isHalf : sg_ok (.code yX7_isHalf cX7_isHalf 1 (some .boolean)) := ⟨ts_7_0.1.1.2.1.2, rfl⟩
theorem cb_X7_isHalf : sg_cb mi_X7_isHalf 1 := ⟨ci_X7_isHalf, iz_7, nh_7, pd_4, Nat.le_of_ble_eq_true rfl⟩
set_option maxRecDepth 100000 in
theorem ms_X7_isHalf : sg_ok (.static yX7_isHalf) := ⟨ts_7_0.1.1.2.1.1, rfl⟩
set_option maxRecDepth 100000 in
theorem ci_X7_isHigh : sg_ok (.code yX7_isHigh cX7_isHigh 1 (some .boolean)) := ⟨ts_7_0.1.2.1.1.1, rfl⟩
theorem cb_X7_isHigh : sg_cb mi_X7_isHigh 1 := ⟨ci_X7_isHigh, iz_7, nh_7, pd_4, Nat.le_of_ble_eq_true rfl⟩
