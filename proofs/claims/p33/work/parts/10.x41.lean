set_option maxRecDepth 100000 in
theorem ms_X4_highOf : sg_ok (.static yX4_highOf) := ⟨ts_2_64.1.1.2.1.1, rfl⟩
set_option maxRecDepth 100000 in
theorem ci_X4_lowOf : sg_ok (.code yX4_lowOf cX4_lowOf 1 (some .int)) := ⟨ts_2_64.1.2.1.1.1, rfl⟩
theorem cb_X4_lowOf : sg_cb mi_X4_lowOf 1 := ⟨ci_X4_lowOf, iz_5, nh_5, pd_6, Nat.le_of_ble_eq_true rfl⟩
set_option maxRecDepth 100000 in
theorem ms_X4_lowOf : sg_ok (.static yX4_lowOf) := ⟨ts_2_64.1.1.2.2.2, rfl⟩
set_option maxRecDepth 100000 in
theorem ci_X5_digest : sg_ok (.code yX5_digest cX5_digest 4 (some .long)) := ⟨ts_2_64.1.2.2.1.2, rfl⟩
theorem pd_14 : (parseMethodDescriptor "()J").map (fun d => d.parameters.length) = some 0 := by decide +kernel
theorem cb_X5_digest : sg_cb mi_X5_digest 0 := ⟨ci_X5_digest, iz_0, nh_0, pd_14, Nat.le_of_ble_eq_true rfl⟩
set_option maxRecDepth 100000 in
theorem mn_X5_digest : sg_ok (.instanceMethod yX5_digest) := ⟨ts_2_64.1.2.1.2.2, rfl⟩
set_option maxRecDepth 100000 in
theorem mv_X5_digest : sg_ok (.selects RX5 yX5_digest yX5_digest) := ⟨ts_2_64.1.2.2.1.1, rfl⟩
set_option maxRecDepth 100000 in
theorem ci_X5_withRow : sg_ok (.code yX5_withRow cX5_withRow 9 (some .long)) := ⟨ts_2_80.1.1.1.2.1, rfl⟩
theorem pd_15 : (parseMethodDescriptor "(JI)J").map (fun d => d.parameters.length) = some 2 := by decide +kernel
