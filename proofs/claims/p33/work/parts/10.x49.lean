set_option maxRecDepth 100000 in
theorem mn_X3_howManySigns : sg_ok (.instanceMethod yX3_howManySigns) := ⟨ts_2_176.1.2.1.2.1, rfl⟩
set_option maxRecDepth 100000 in
theorem mv_X3_howManySigns : sg_ok (.selects RX3 yX3_howManySigns yX3_howManySigns) := ⟨ts_2_176.1.2.1.2.2, rfl⟩
set_option maxRecDepth 100000 in
theorem ci_X3_howManyUnits : sg_ok (.code yX3_howManyUnits cX3_howManyUnits 3 (some .int)) := ⟨ts_2_192.1.1.1.1.2, rfl⟩
theorem cb_X3_howManyUnits : sg_cb mi_X3_howManyUnits 0 := ⟨ci_X3_howManyUnits, iz_1, nh_1, pd_2, Nat.le_of_ble_eq_true rfl⟩
set_option maxRecDepth 100000 in
theorem mn_X3_howManyUnits : sg_ok (.instanceMethod yX3_howManyUnits) := ⟨ts_2_176.1.2.2.2.2, rfl⟩
set_option maxRecDepth 100000 in
theorem mv_X3_howManyUnits : sg_ok (.selects RX3 yX3_howManyUnits yX3_howManyUnits) := ⟨ts_2_192.1.1.1.1.1, rfl⟩
set_option maxRecDepth 100000 in
theorem ci_X1_size : sg_ok (.code yX1_size cX1_size 1 (some .int)) := ⟨ts_2_192.1.1.2.1.2, rfl⟩
theorem cb_X1_size : sg_cb mi_X1_size 0 := ⟨ci_X1_size, iz_3, nh_3, pd_2, Nat.le_of_ble_eq_true rfl⟩
set_option maxRecDepth 100000 in
theorem mn_X1_size : sg_ok (.instanceMethod yX1_size) := ⟨ts_2_192.1.1.1.2.2, rfl⟩
set_option maxRecDepth 100000 in
theorem mv_X1_size : sg_ok (.selects RX1 yX1_size yX1_size) := ⟨ts_2_192.1.1.2.1.1, rfl⟩
