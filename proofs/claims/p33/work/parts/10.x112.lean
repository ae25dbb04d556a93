set_option maxRecDepth 100000 in
theorem ci_X7_half : sg_ok (.code yX7_half cX7_half 3 (some .int)) := ⟨ts_7_208.1.1.2.1.2, rfl⟩
theorem cb_X7_half : sg_cb mi_X7_half 2 := ⟨ci_X7_half, iz_7, nh_7, pd_25, Nat.le_of_ble_eq_true rfl⟩
set_option maxRecDepth 100000 in
theorem mn_X7_half : sg_ok (.instanceMethod yX7_half) := ⟨ts_7_208.1.1.1.2.2, rfl⟩
set_option maxRecDepth 100000 in
theorem mv_X7_half : sg_ok (.selects RX7 yX7_half yX7_half) := ⟨ts_7_208.1.1.2.1.1, rfl⟩
set_option maxRecDepth 100000 in
theorem ci_X7_code : sg_ok (.code yX7_code cX7_code 3 (some .int)) := ⟨ts_7_208.1.2.1.1.2, rfl⟩
theorem cb_X7_code : sg_cb mi_X7_code 2 := ⟨ci_X7_code, iz_7, nh_7, pd_3, Nat.le_of_ble_eq_true rfl⟩
set_option maxRecDepth 100000 in
theorem mn_X7_code : sg_ok (.instanceMethod yX7_code) := ⟨ts_7_208.1.1.2.2.2, rfl⟩
set_option maxRecDepth 100000 in
theorem mv_X7_code : sg_ok (.selects RX7 yX7_code yX7_code) := ⟨ts_7_208.1.2.1.1.1, rfl⟩
set_option maxRecDepth 100000 in
theorem ci_X7_ofUnit : sg_ok (.code yX7_ofUnit cX7_ofUnit 3 (some .int)) := ⟨ts_7_208.1.2.2.1.2, rfl⟩
theorem cb_X7_ofUnit : sg_cb mi_X7_ofUnit 2 := ⟨ci_X7_ofUnit, iz_7, nh_7, pd_3, Nat.le_of_ble_eq_true rfl⟩
set_option maxRecDepth 100000 in
theorem mn_X7_ofUnit : sg_ok (.instanceMethod yX7_ofUnit) := ⟨ts_7_208.1.2.1.2.2, rfl⟩
