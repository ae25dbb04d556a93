set_option maxRecDepth 100000 in
theorem ci_X4_isCounted : sg_ok (.code yX4_isCounted cX4_isCounted 2 (some .boolean)) := ⟨ts_2_160.1.1.1.1.2, rfl⟩
theorem cb_X4_isCounted : sg_cb mi_X4_isCounted 2 := ⟨ci_X4_isCounted, iz_5, nh_5, pd_10, Nat.le_of_ble_eq_true rfl⟩
set_option maxRecDepth 100000 in
theorem ms_X4_isCounted : sg_ok (.static yX4_isCounted) := ⟨ts_2_160.1.1.1.1.1, rfl⟩
set_option maxRecDepth 100000 in
theorem ci_X4_isHalf : sg_ok (.code yX4_isHalf cX4_isHalf 1 (some .boolean)) := ⟨ts_2_160.1.1.2.1.1, rfl⟩
theorem cb_X4_isHalf : sg_cb mi_X4_isHalf 1 := ⟨ci_X4_isHalf, iz_5, nh_5, pd_4, Nat.le_of_ble_eq_true rfl⟩
set_option maxRecDepth 100000 in
theorem ms_X4_isHalf : sg_ok (.static yX4_isHalf) := ⟨ts_2_160.1.1.1.2.2, rfl⟩
set_option maxRecDepth 100000 in
theorem ci_X5_ofUnit : sg_ok (.code yX5_ofUnit cX5_ofUnit 3 (some .int)) := ⟨ts_2_160.1.2.1.1.1, rfl⟩
theorem cb_X5_ofUnit : sg_cb mi_X5_ofUnit 2 := ⟨ci_X5_ofUnit, iz_0, nh_0, pd_3, Nat.le_of_ble_eq_true rfl⟩
set_option maxRecDepth 100000 in
theorem mn_X5_ofUnit : sg_ok (.instanceMethod yX5_ofUnit) := ⟨ts_2_160.1.1.2.2.1, rfl⟩
set_option maxRecDepth 100000 in
theorem mv_X5_ofUnit : sg_ok (.selects RX5 yX5_ofUnit yX5_ofUnit) := ⟨ts_2_160.1.1.2.2.2, rfl⟩
set_option maxRecDepth 100000 in
theorem ci_X5_checkUnit : sg_ok (.code yX5_checkUnit cX5_checkUnit 1 (none : Option Jvm.ClassFile.FieldType)) := ⟨ts_2_160.1.2.1.2.2, rfl⟩
