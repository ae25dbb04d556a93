theorem cb_X5_spell : sg_cb mi_X5_spell 2 := ⟨ci_X5_spell, iz_0, nh_0, pd_3, Nat.le_of_ble_eq_true rfl⟩
set_option maxRecDepth 100000 in
theorem mn_X5_spell : sg_ok (.instanceMethod yX5_spell) := ⟨ts_3_112.1.2.2.2.2, rfl⟩
set_option maxRecDepth 100000 in
theorem mv_X5_spell : sg_ok (.selects RX5 yX5_spell yX5_spell) := ⟨ts_3_128.1.1.1.1.1, rfl⟩
set_option maxRecDepth 100000 in
theorem ci_X5_checkAreTwo : sg_ok (.code yX5_checkAreTwo cX5_checkAreTwo 2 (none : Option Jvm.ClassFile.FieldType)) := ⟨ts_3_128.1.1.2.1.1, rfl⟩
theorem cb_X5_checkAreTwo : sg_cb mi_X5_checkAreTwo 2 := ⟨ci_X5_checkAreTwo, iz_0, nh_0, pd_21, Nat.le_of_ble_eq_true rfl⟩
set_option maxRecDepth 100000 in
theorem ms_X5_checkAreTwo : sg_ok (.static yX5_checkAreTwo) := ⟨ts_3_128.1.1.1.2.2, rfl⟩
set_option maxRecDepth 100000 in
theorem ci_X0_clear : sg_ok (.code yX0_clear cX0_clear 1 (none : Option Jvm.ClassFile.FieldType)) := ⟨ts_3_128.1.2.1.1.2, rfl⟩
theorem cb_X0_clear : sg_cb mi_X0_clear 0 := ⟨ci_X0_clear, iz_2, nh_2, pd_0, Nat.le_of_ble_eq_true rfl⟩
set_option maxRecDepth 100000 in
theorem mn_X0_clear : sg_ok (.instanceMethod yX0_clear) := ⟨ts_3_128.1.1.2.2.2, rfl⟩
set_option maxRecDepth 100000 in
theorem mv_X0_clear : sg_ok (.selects RX0 yX0_clear yX0_clear) := ⟨ts_3_128.1.2.1.1.1, rfl⟩
set_option maxRecDepth 100000 in
theorem ci_X2_firstSpelled : sg_ok (.code yX2_firstSpelled cX2_firstSpelled 1 (some .int)) := ⟨ts_3_128.1.2.2.1.1, rfl⟩
