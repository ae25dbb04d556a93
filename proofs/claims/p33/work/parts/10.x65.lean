set_option maxRecDepth 100000 in
theorem ci_X5_flip : sg_ok (.code yX5_flip cX5_flip 6 (some .int)) := ⟨ts_3_176.1.2.1.2.1, rfl⟩
theorem cb_X5_flip : sg_cb mi_X5_flip 1 := ⟨ci_X5_flip, iz_0, nh_0, pd_6, Nat.le_of_ble_eq_true rfl⟩
set_option maxRecDepth 100000 in
theorem mn_X5_flip : sg_ok (.instanceMethod yX5_flip) := ⟨ts_3_176.1.2.1.1.1, rfl⟩
set_option maxRecDepth 100000 in
theorem mv_X5_flip : sg_ok (.selects RX5 yX5_flip yX5_flip) := ⟨ts_3_176.1.2.1.1.2, rfl⟩
set_option maxRecDepth 100000 in
theorem ms_L_reverse : sg_ok (.static yL_reverse) := ⟨ts_3_176.1.2.2.1.1, rfl⟩
set_option maxRecDepth 100000 in
theorem ci_X5_reverse : sg_ok (.code yX5_reverse cX5_reverse 4 (some .int)) := ⟨ts_3_192.1.1.1.1.2, rfl⟩
theorem cb_X5_reverse : sg_cb mi_X5_reverse 1 := ⟨ci_X5_reverse, iz_0, nh_0, pd_6, Nat.le_of_ble_eq_true rfl⟩
set_option maxRecDepth 100000 in
theorem mn_X5_reverse : sg_ok (.instanceMethod yX5_reverse) := ⟨ts_3_176.1.2.2.2.2, rfl⟩
set_option maxRecDepth 100000 in
theorem mv_X5_reverse : sg_ok (.selects RX5 yX5_reverse yX5_reverse) := ⟨ts_3_192.1.1.1.1.1, rfl⟩
set_option maxRecDepth 100000 in
theorem ci_X4_listCodes : sg_ok (.code yX4_listCodes cX4_listCodes 3 (none : Option Jvm.ClassFile.FieldType)) := ⟨ts_3_192.1.1.2.1.1, rfl⟩
