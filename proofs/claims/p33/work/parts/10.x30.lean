set_option maxRecDepth 100000 in
theorem ms_X2_isBetween : sg_ok (.static yX2_isBetween) := ⟨ts_1_112.1.1.1.2.2, rfl⟩
set_option maxRecDepth 100000 in
theorem ci_X5_isCode : sg_ok (.code yX5_isCode cX5_isCode 2 (some .boolean)) := ⟨ts_1_112.1.2.1.1.1, rfl⟩
theorem cb_X5_isCode : sg_cb mi_X5_isCode 1 := ⟨ci_X5_isCode, iz_0, nh_0, pd_4, Nat.le_of_ble_eq_true rfl⟩
set_option maxRecDepth 100000 in
theorem mn_X5_isCode : sg_ok (.instanceMethod yX5_isCode) := ⟨ts_1_112.1.1.2.2.1, rfl⟩
set_option maxRecDepth 100000 in
theorem mv_X5_isCode : sg_ok (.selects RX5 yX5_isCode yX5_isCode) := ⟨ts_1_112.1.1.2.2.2, rfl⟩
set_option maxRecDepth 100000 in
theorem iz_5 : sg_ok (.initialized RX4) := ⟨ts_1_16.1.1.2.2.2, rfl⟩
set_option maxRecDepth 100000 in
theorem ci_X4_isAnyCode : sg_ok (.code yX4_isAnyCode cX4_isAnyCode 1 (some .boolean)) := ⟨ts_1_112.1.2.1.2.2, rfl⟩
theorem nh_5 : RX4 ≠ "java/lang/invoke/MethodHandle" ∧ RX4 ≠ "java/lang/invoke/VarHandle" := ⟨by decide +kernel, by decide +kernel⟩
theorem cb_X4_isAnyCode : sg_cb mi_X4_isAnyCode 1 := ⟨ci_X4_isAnyCode, iz_5, nh_5, pd_4, Nat.le_of_ble_eq_true rfl⟩
set_option maxRecDepth 100000 in
theorem ms_X4_isAnyCode : sg_ok (.static yX4_isAnyCode) := ⟨ts_1_112.1.2.1.2.1, rfl⟩
set_option maxRecDepth 100000 in
theorem ci_X5_isPlain : sg_ok (.code yX5_isPlain cX5_isPlain 2 (some .boolean)) := ⟨ts_1_128.1.1.1.1.1, rfl⟩
