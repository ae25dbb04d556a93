theorem cb_X5_checkUnit : sg_cb mi_X5_checkUnit 1 := ⟨ci_X5_checkUnit, iz_0, nh_0, pd_1, Nat.le_of_ble_eq_true rfl⟩
set_option maxRecDepth 100000 in
theorem ms_X5_checkUnit : sg_ok (.static yX5_checkUnit) := ⟨ts_2_160.1.2.1.2.1, rfl⟩
set_option maxRecDepth 100000 in
theorem ci_X4_turned : sg_ok (.code yX4_turned cX4_turned 1 (some .int)) := ⟨ts_2_176.1.1.1.2.1, rfl⟩
theorem cb_X4_turned : sg_cb mi_X4_turned 1 := ⟨ci_X4_turned, iz_5, nh_5, pd_6, Nat.le_of_ble_eq_true rfl⟩
set_option maxRecDepth 100000 in
theorem ms_X4_turned : sg_ok (.static yX4_turned) := ⟨ts_2_176.1.1.1.1.2, rfl⟩
set_option maxRecDepth 100000 in
theorem ci_X5_house : sg_ok (.code yX5_house cX5_house 2 (some .int)) := ⟨ts_2_176.1.2.1.1.1, rfl⟩
theorem cb_X5_house : sg_cb mi_X5_house 1 := ⟨ci_X5_house, iz_0, nh_0, pd_6, Nat.le_of_ble_eq_true rfl⟩
set_option maxRecDepth 100000 in
theorem mn_X5_house : sg_ok (.instanceMethod yX5_house) := ⟨ts_2_176.1.1.2.2.1, rfl⟩
set_option maxRecDepth 100000 in
theorem mv_X5_house : sg_ok (.selects RX5 yX5_house yX5_house) := ⟨ts_2_176.1.1.2.2.2, rfl⟩
set_option maxRecDepth 100000 in
theorem ci_X3_howManySigns : sg_ok (.code yX3_howManySigns cX3_howManySigns 3 (some .int)) := ⟨ts_2_176.1.2.2.1.1, rfl⟩
theorem cb_X3_howManySigns : sg_cb mi_X3_howManySigns 0 := ⟨ci_X3_howManySigns, iz_1, nh_1, pd_2, Nat.le_of_ble_eq_true rfl⟩
