set_option maxRecDepth 100000 in
theorem ci_X5_laid : sg_ok (.code yX5_laid cX5_laid 1 (some .int)) := ⟨ts_2_224.1.1.1.1.1, rfl⟩
theorem cb_X5_laid : sg_cb mi_X5_laid 1 := ⟨ci_X5_laid, iz_0, nh_0, pd_6, Nat.le_of_ble_eq_true rfl⟩
set_option maxRecDepth 100000 in
theorem ms_X5_laid : sg_ok (.static yX5_laid) := ⟨ts_2_208.1.2.2.2.2, rfl⟩
set_option maxRecDepth 100000 in
theorem ci_X5_checkSign : sg_ok (.code yX5_checkSign cX5_checkSign 1 (none : Option Jvm.ClassFile.FieldType)) := ⟨ts_2_224.1.1.1.2.2, rfl⟩
theorem cb_X5_checkSign : sg_cb mi_X5_checkSign 1 := ⟨ci_X5_checkSign, iz_0, nh_0, pd_1, Nat.le_of_ble_eq_true rfl⟩
set_option maxRecDepth 100000 in
theorem ms_X5_checkSign : sg_ok (.static yX5_checkSign) := ⟨ts_2_224.1.1.1.2.1, rfl⟩
set_option maxRecDepth 100000 in
theorem ci_X2_isSign : sg_ok (.code yX2_isSign cX2_isSign 1 (some .boolean)) := ⟨ts_2_224.1.1.2.2.1, rfl⟩
theorem cb_X2_isSign : sg_cb mi_X2_isSign 1 := ⟨ci_X2_isSign, iz_4, nh_4, pd_4, Nat.le_of_ble_eq_true rfl⟩
set_option maxRecDepth 100000 in
theorem ms_X2_isSign : sg_ok (.static yX2_isSign) := ⟨ts_2_224.1.1.2.1.2, rfl⟩
set_option maxRecDepth 100000 in
theorem ci_X0_hasRoomFor : sg_ok (.code yX0_hasRoomFor cX0_hasRoomFor 2 (some .boolean)) := ⟨ts_2_224.1.2.1.2.2, rfl⟩
theorem cb_X0_hasRoomFor : sg_cb mi_X0_hasRoomFor 1 := ⟨ci_X0_hasRoomFor, iz_2, nh_2, pd_4, Nat.le_of_ble_eq_true rfl⟩
