theorem pd_7 : (parseMethodDescriptor "()Z").map (fun d => d.parameters.length) = some 0 := by decide +kernel
theorem cb_X5_isSound : sg_cb mi_X5_isSound 0 := ⟨ci_X5_isSound, iz_0, nh_0, pd_7, Nat.le_of_ble_eq_true rfl⟩
set_option maxRecDepth 100000 in
theorem mn_X5_isSound : sg_ok (.instanceMethod yX5_isSound) := ⟨ts_1_144.1.1.2.1.1, rfl⟩
set_option maxRecDepth 100000 in
theorem mv_X5_isSound : sg_ok (.selects RX5 yX5_isSound yX5_isSound) := ⟨ts_1_144.1.1.2.1.2, rfl⟩
set_option maxRecDepth 100000 in
theorem ci_X5_rowOf : sg_ok (.code yX5_rowOf cX5_rowOf 2 (some (.object "Signkinds$Line"))) := ⟨ts_1_144.1.2.1.2.1, rfl⟩
theorem pd_8 : (parseMethodDescriptor "(I)LSignkinds$Line;").map (fun d => d.parameters.length) = some 1 := by decide +kernel
theorem cb_X5_rowOf : sg_cb mi_X5_rowOf 1 := ⟨ci_X5_rowOf, iz_0, nh_0, pd_8, Nat.le_of_ble_eq_true rfl⟩
set_option maxRecDepth 100000 in
theorem mn_X5_rowOf : sg_ok (.instanceMethod yX5_rowOf) := ⟨ts_1_144.1.2.1.1.2, rfl⟩
theorem mv_X5_rowOf : sg_ok (.selects RX5 yX5_rowOf yX5_rowOf) := sg_oks 0 (by decide +kernel)
set_option maxRecDepth 100000 in
theorem ci_X5_isSoundRow : sg_ok (.code yX5_isSoundRow cX5_isSoundRow 2 (some .boolean)) := ⟨ts_1_224.1.1.1.1.2, rfl⟩
theorem pd_9 : (parseMethodDescriptor "(LSignkinds$Line;)Z").map (fun d => d.parameters.length) = some 1 := by decide +kernel
theorem cb_X5_isSoundRow : sg_cb mi_X5_isSoundRow 1 := ⟨ci_X5_isSoundRow, iz_0, nh_0, pd_9, Nat.le_of_ble_eq_true rfl⟩
set_option maxRecDepth 100000 in
theorem ms_X5_isSoundRow : sg_ok (.static yX5_isSoundRow) := ⟨ts_1_224.1.1.1.1.1, rfl⟩
