set_option maxRecDepth 100000 in
theorem ci_X2_digitsOf : sg_ok (.code yX2_digitsOf cX2_digitsOf 3 (some .int)) := ⟨ts_3_112.1.1.2.1.1, rfl⟩
theorem cb_X2_digitsOf : sg_cb mi_X2_digitsOf 2 := ⟨ci_X2_digitsOf, iz_4, nh_4, pd_3, Nat.le_of_ble_eq_true rfl⟩
set_option maxRecDepth 100000 in
theorem ms_X2_digitsOf : sg_ok (.static yX2_digitsOf) := ⟨ts_3_112.1.1.1.2.2, rfl⟩
set_option maxRecDepth 100000 in
theorem ci_X2_shifted : sg_ok (.code yX2_shifted cX2_shifted 5 (some .int)) := ⟨ts_3_112.1.1.2.2.2, rfl⟩
theorem cb_X2_shifted : sg_cb mi_X2_shifted 3 := ⟨ci_X2_shifted, iz_4, nh_4, pd_23, Nat.le_of_ble_eq_true rfl⟩
set_option maxRecDepth 100000 in
theorem ms_X2_shifted : sg_ok (.static yX2_shifted) := ⟨ts_3_112.1.1.2.2.1, rfl⟩
set_option maxRecDepth 100000 in
theorem ci_X2_digitNumber : sg_ok (.code yX2_digitNumber cX2_digitNumber 3 (some .int)) := ⟨ts_3_112.1.2.1.2.1, rfl⟩
theorem cb_X2_digitNumber : sg_cb mi_X2_digitNumber 3 := ⟨ci_X2_digitNumber, iz_4, nh_4, pd_23, Nat.le_of_ble_eq_true rfl⟩
set_option maxRecDepth 100000 in
theorem ms_X2_digitNumber : sg_ok (.static yX2_digitNumber) := ⟨ts_3_112.1.2.1.1.2, rfl⟩
set_option maxRecDepth 100000 in
theorem ms_L_spell : sg_ok (.static yL_spell) := ⟨ts_3_112.1.2.2.1.1, rfl⟩
set_option maxRecDepth 100000 in
theorem ci_X5_spell : sg_ok (.code yX5_spell cX5_spell 6 (some .int)) := ⟨ts_3_128.1.1.1.1.2, rfl⟩
