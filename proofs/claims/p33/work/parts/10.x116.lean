theorem cb_X7_house : sg_cb mi_X7_house 1 := ⟨ci_X7_house, iz_7, nh_7, pd_6, Nat.le_of_ble_eq_true rfl⟩
set_option maxRecDepth 100000 in
theorem mn_X7_house : sg_ok (.instanceMethod yX7_house) := ⟨ts_8_0.1.2.2.2.1, rfl⟩
set_option maxRecDepth 100000 in
theorem mv_X7_house : sg_ok (.selects RX7 yX7_house yX7_house) := ⟨ts_8_0.1.2.2.2.2, rfl⟩
set_option maxRecDepth 100000 in
theorem ci_X7_houseOf : sg_ok (.code yX7_houseOf cX7_houseOf 4 (some .int)) := ⟨ts_8_16.1.1.2.1.1, rfl⟩
theorem cb_X7_houseOf : sg_cb mi_X7_houseOf 1 := ⟨ci_X7_houseOf, iz_7, nh_7, pd_6, Nat.le_of_ble_eq_true rfl⟩
set_option maxRecDepth 100000 in
theorem mn_X7_houseOf : sg_ok (.instanceMethod yX7_houseOf) := ⟨ts_8_16.1.1.1.2.2, rfl⟩
theorem mv_X7_houseOf : sg_ok (.selects RX7 yX7_houseOf yX7_houseOf) := sg_oks 26 (by decide +kernel)
set_option maxRecDepth 100000 in
theorem ci_X7_isSound : sg_ok (.code yX7_isSound cX7_isSound 3 (some .boolean)) := ⟨ts_8_16.1.2.1.1.1, rfl⟩
theorem cb_X7_isSound : sg_cb mi_X7_isSound 0 := ⟨ci_X7_isSound, iz_7, nh_7, pd_7, Nat.le_of_ble_eq_true rfl⟩
set_option maxRecDepth 100000 in
theorem mn_X7_isSound : sg_ok (.instanceMethod yX7_isSound) := ⟨ts_8_16.1.1.2.2.1, rfl⟩
set_option maxRecDepth 100000 in
theorem mv_X7_isSound : sg_ok (.selects RX7 yX7_isSound yX7_isSound) := ⟨ts_8_16.1.1.2.2.2, rfl⟩
