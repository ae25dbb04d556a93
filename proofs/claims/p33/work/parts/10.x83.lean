set_option maxRecDepth 100000 in
theorem ci_X7_isOf : sg_ok (.code yX7_isOf cX7_isOf 3 (some .boolean)) := ⟨ts_6_32.1.2.1.2.1, rfl⟩
theorem cb_X7_isOf : sg_cb mi_X7_isOf 3 := ⟨ci_X7_isOf, iz_7, nh_7, pd_5, Nat.le_of_ble_eq_true rfl⟩
set_option maxRecDepth 100000 in
theorem ms_X7_isOf : sg_ok (.static yX7_isOf) := ⟨ts_6_32.1.2.1.1.2, rfl⟩
set_option maxRecDepth 100000 in
theorem ci_X7_isNoRow : sg_ok (.code yX7_isNoRow cX7_isNoRow 1 (some .boolean)) := ⟨ts_6_32.1.2.2.1.2, rfl⟩
theorem cb_X7_isNoRow : sg_cb mi_X7_isNoRow 1 := ⟨ci_X7_isNoRow, iz_7, nh_7, pd_4, Nat.le_of_ble_eq_true rfl⟩
set_option maxRecDepth 100000 in
theorem ms_X7_isNoRow : sg_ok (.static yX7_isNoRow) := ⟨ts_6_32.1.2.2.1.1, rfl⟩
set_option maxRecDepth 100000 in
theorem ci_X7_start : sg_ok (.code yX7_start cX7_start 3 (some .boolean)) := ⟨ts_6_48.1.1.1.1.2, rfl⟩
theorem pd_28 : (parseMethodDescriptor "(ZI)Z").map (fun d => d.parameters.length) = some 2 := by decide +kernel
theorem cb_X7_start : sg_cb mi_X7_start 2 := ⟨ci_X7_start, iz_7, nh_7, pd_28, Nat.le_of_ble_eq_true rfl⟩
set_option maxRecDepth 100000 in
theorem mn_X7_start : sg_ok (.instanceMethod yX7_start) := ⟨ts_6_48.1.1.1.1.1, rfl⟩
theorem mv_X7_start : sg_ok (.selects RX7 yX7_start yX7_start) := sg_oks 6 (by decide +kernel)
set_option maxRecDepth 100000 in
theorem ci_X7_refuse : sg_ok (.code yX7_refuse cX7_refuse 3 (some .boolean)) := ⟨ts_6_48.1.1.2.1.2, rfl⟩
