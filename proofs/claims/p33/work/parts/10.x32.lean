theorem cb_X4_isWideCode : sg_cb mi_X4_isWideCode 1 := ⟨ci_X4_isWideCode, iz_5, nh_5, pd_4, Nat.le_of_ble_eq_true rfl⟩
set_option maxRecDepth 100000 in
theorem ms_X4_isWideCode : sg_ok (.static yX4_isWideCode) := ⟨ts_1_128.1.2.1.2.1, rfl⟩
set_option maxRecDepth 100000 in
theorem ci_X5_units : sg_ok (.code yX5_units cX5_units 2 (some .int)) := ⟨ts_1_128.1.2.2.2.2, rfl⟩
theorem pd_6 : (parseMethodDescriptor "(I)I").map (fun d => d.parameters.length) = some 1 := by decide +kernel
theorem cb_X5_units : sg_cb mi_X5_units 1 := ⟨ci_X5_units, iz_0, nh_0, pd_6, Nat.le_of_ble_eq_true rfl⟩
set_option maxRecDepth 100000 in
theorem mn_X5_units : sg_ok (.instanceMethod yX5_units) := ⟨ts_1_128.1.2.2.1.2, rfl⟩
set_option maxRecDepth 100000 in
theorem mv_X5_units : sg_ok (.selects RX5 yX5_units yX5_units) := ⟨ts_1_128.1.2.2.2.1, rfl⟩
set_option maxRecDepth 100000 in
theorem ci_X4_unitsOf : sg_ok (.code yX4_unitsOf cX4_unitsOf 1 (some .int)) := ⟨ts_1_144.1.1.1.2.1, rfl⟩
theorem cb_X4_unitsOf : sg_cb mi_X4_unitsOf 1 := ⟨ci_X4_unitsOf, iz_5, nh_5, pd_6, Nat.le_of_ble_eq_true rfl⟩
set_option maxRecDepth 100000 in
theorem ms_X4_unitsOf : sg_ok (.static yX4_unitsOf) := ⟨ts_1_144.1.1.1.1.2, rfl⟩
set_option maxRecDepth 100000 in
theorem ci_X5_isSound : sg_ok (.code yX5_isSound cX5_isSound 2 (some .boolean)) := ⟨ts_1_144.1.1.2.2.1, rfl⟩
