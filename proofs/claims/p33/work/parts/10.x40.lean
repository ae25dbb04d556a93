theorem pd_12 : (parseMethodDescriptor "(LSignkinds$Line;I)I").map (fun d => d.parameters.length) = some 2 := by decide +kernel
theorem cb_X4_codeFrom : sg_cb mi_X4_codeFrom 2 := ⟨ci_X4_codeFrom, iz_5, nh_5, pd_12, Nat.le_of_ble_eq_true rfl⟩
set_option maxRecDepth 100000 in
theorem ms_X4_codeFrom : sg_ok (.static yX4_codeFrom) := ⟨ts_2_48.1.2.1.2.1, rfl⟩
set_option maxRecDepth 100000 in
theorem ci_X4_codeOf : sg_ok (.code yX4_codeOf cX4_codeOf 2 (some .int)) := ⟨ts_2_48.1.2.2.2.1, rfl⟩
theorem cb_X4_codeOf : sg_cb mi_X4_codeOf 2 := ⟨ci_X4_codeOf, iz_5, nh_5, pd_3, Nat.le_of_ble_eq_true rfl⟩
set_option maxRecDepth 100000 in
theorem ms_X4_codeOf : sg_ok (.static yX4_codeOf) := ⟨ts_2_48.1.2.2.1.2, rfl⟩
set_option maxRecDepth 100000 in
theorem ci_X4_standsAt : sg_ok (.code yX4_standsAt cX4_standsAt 3 (some .boolean)) := ⟨ts_2_64.1.1.1.1.2, rfl⟩
theorem pd_13 : (parseMethodDescriptor "(LSignkinds$Line;II)Z").map (fun d => d.parameters.length) = some 3 := by decide +kernel
theorem cb_X4_standsAt : sg_cb mi_X4_standsAt 3 := ⟨ci_X4_standsAt, iz_5, nh_5, pd_13, Nat.le_of_ble_eq_true rfl⟩
set_option maxRecDepth 100000 in
theorem ms_X4_standsAt : sg_ok (.static yX4_standsAt) := ⟨ts_2_64.1.1.1.1.1, rfl⟩
set_option maxRecDepth 100000 in
theorem ci_X4_highOf : sg_ok (.code yX4_highOf cX4_highOf 1 (some .int)) := ⟨ts_2_64.1.1.2.1.2, rfl⟩
theorem cb_X4_highOf : sg_cb mi_X4_highOf 1 := ⟨ci_X4_highOf, iz_5, nh_5, pd_6, Nat.le_of_ble_eq_true rfl⟩
