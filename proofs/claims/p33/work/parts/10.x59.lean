set_option maxRecDepth 100000 in
theorem mv_X5_turn : sg_ok (.selects RX5 yX5_turn yX5_turn) := ⟨ts_3_96.1.1.1.2.1, rfl⟩
set_option maxRecDepth 100000 in
theorem ci_X0_turnRound : sg_ok (.code yX0_turnRound cX0_turnRound 4 (none : Option Jvm.ClassFile.FieldType)) := ⟨ts_3_96.1.1.2.2.2, rfl⟩
theorem cb_X0_turnRound : sg_cb mi_X0_turnRound 0 := ⟨ci_X0_turnRound, iz_2, nh_2, pd_0, Nat.le_of_ble_eq_true rfl⟩
set_option maxRecDepth 100000 in
theorem mn_X0_turnRound : sg_ok (.instanceMethod yX0_turnRound) := ⟨ts_3_96.1.1.2.1.2, rfl⟩
set_option maxRecDepth 100000 in
theorem mv_X0_turnRound : sg_ok (.selects RX0 yX0_turnRound yX0_turnRound) := ⟨ts_3_96.1.1.2.2.1, rfl⟩
set_option maxRecDepth 100000 in
theorem ms_L_write : sg_ok (.static yL_write) := ⟨ts_3_96.1.2.1.2.1, rfl⟩
set_option maxRecDepth 100000 in
theorem ci_X5_write : sg_ok (.code yX5_write cX5_write 7 (some .int)) := ⟨ts_3_96.1.2.2.2.2, rfl⟩
theorem pd_23 : (parseMethodDescriptor "(III)I").map (fun d => d.parameters.length) = some 3 := by decide +kernel
theorem cb_X5_write : sg_cb mi_X5_write 3 := ⟨ci_X5_write, iz_0, nh_0, pd_23, Nat.le_of_ble_eq_true rfl⟩
set_option maxRecDepth 100000 in
theorem mn_X5_write : sg_ok (.instanceMethod yX5_write) := ⟨ts_3_96.1.2.2.1.2, rfl⟩
set_option maxRecDepth 100000 in
theorem mv_X5_write : sg_ok (.selects RX5 yX5_write yX5_write) := ⟨ts_3_96.1.2.2.2.1, rfl⟩
