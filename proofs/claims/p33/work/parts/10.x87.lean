theorem mv_X7_cased : sg_ok (.selects RX7 yX7_cased yX7_cased) := sg_oks 13 (by decide +kernel)
set_option maxRecDepth 100000 in
theorem ci_X7_upperOf : sg_ok (.code yX7_upperOf cX7_upperOf 1 (some .int)) := ⟨ts_6_144.1.1.1.2.2, rfl⟩
theorem cb_X7_upperOf : sg_cb mi_X7_upperOf 1 := ⟨ci_X7_upperOf, iz_7, nh_7, pd_6, Nat.le_of_ble_eq_true rfl⟩
set_option maxRecDepth 100000 in
theorem ms_X7_upperOf : sg_ok (.static yX7_upperOf) := ⟨ts_6_144.1.1.1.2.1, rfl⟩
set_option maxRecDepth 100000 in
theorem ci_X7_lowerOf : sg_ok (.code yX7_lowerOf cX7_lowerOf 1 (some .int)) := ⟨ts_6_144.1.1.2.2.1, rfl⟩
theorem cb_X7_lowerOf : sg_cb mi_X7_lowerOf 1 := ⟨ci_X7_lowerOf, iz_7, nh_7, pd_6, Nat.le_of_ble_eq_true rfl⟩
set_option maxRecDepth 100000 in
theorem ms_X7_lowerOf : sg_ok (.static yX7_lowerOf) := ⟨ts_6_144.1.1.2.1.2, rfl⟩
set_option maxRecDepth 100000 in
theorem ci_X7_isKind : sg_ok (.code yX7_isKind cX7_isKind 3 (some .boolean)) := ⟨ts_6_144.1.2.1.1.2, rfl⟩
theorem cb_X7_isKind : sg_cb mi_X7_isKind 2 := ⟨ci_X7_isKind, iz_7, nh_7, pd_10, Nat.le_of_ble_eq_true rfl⟩
set_option maxRecDepth 100000 in
theorem ms_X7_isKind : sg_ok (.static yX7_isKind) := ⟨ts_6_144.1.2.1.1.1, rfl⟩
set_option maxRecDepth 100000 in
theorem ci_X7_one : sg_ok (.code yX7_one cX7_one 1 (some .int)) := ⟨ts_6_144.1.2.2.2.1, rfl⟩
