set_option maxRecDepth 100000 in
theorem ms_X2_isAnyGreat : sg_ok (.static yX2_isAnyGreat) := ⟨ts_2_16.1.1.1.1.2, rfl⟩
set_option maxRecDepth 100000 in
theorem ci_X2_lowerOf : sg_ok (.code yX2_lowerOf cX2_lowerOf 1 (some .int)) := ⟨ts_2_16.1.1.2.1.2, rfl⟩
theorem cb_X2_lowerOf : sg_cb mi_X2_lowerOf 1 := ⟨ci_X2_lowerOf, iz_4, nh_4, pd_6, Nat.le_of_ble_eq_true rfl⟩
set_option maxRecDepth 100000 in
theorem ms_X2_lowerOf : sg_ok (.static yX2_lowerOf) := ⟨ts_2_16.1.1.2.1.1, rfl⟩
set_option maxRecDepth 100000 in
theorem ci_X2_upperOf : sg_ok (.code yX2_upperOf cX2_upperOf 1 (some .int)) := ⟨ts_2_16.1.2.1.1.1, rfl⟩
theorem cb_X2_upperOf : sg_cb mi_X2_upperOf 1 := ⟨ci_X2_upperOf, iz_4, nh_4, pd_6, Nat.le_of_ble_eq_true rfl⟩
set_option maxRecDepth 100000 in
theorem ms_X2_upperOf : sg_ok (.static yX2_upperOf) := ⟨ts_2_16.1.1.2.2.2, rfl⟩
set_option maxRecDepth 100000 in
theorem ci_X2_numberOf : sg_ok (.code yX2_numberOf cX2_numberOf 3 (some .int)) := ⟨ts_2_16.1.2.1.2.2, rfl⟩
theorem cb_X2_numberOf : sg_cb mi_X2_numberOf 2 := ⟨ci_X2_numberOf, iz_4, nh_4, pd_3, Nat.le_of_ble_eq_true rfl⟩
set_option maxRecDepth 100000 in
theorem ms_X2_numberOf : sg_ok (.static yX2_numberOf) := ⟨ts_2_16.1.2.1.2.1, rfl⟩
set_option maxRecDepth 100000 in
theorem ci_X2_plainValueOf : sg_ok (.code yX2_plainValueOf cX2_plainValueOf 1 (some .int)) := ⟨ts_2_16.1.2.2.2.1, rfl⟩
