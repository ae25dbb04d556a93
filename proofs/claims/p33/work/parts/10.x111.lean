theorem cb_X7_isPlain : sg_cb mi_X7_isPlain 1 := ⟨ci_X7_isPlain, iz_7, nh_7, pd_4, Nat.le_of_ble_eq_true rfl⟩
set_option maxRecDepth 100000 in
theorem mn_X7_isPlain : sg_ok (.instanceMethod yX7_isPlain) := ⟨ts_7_192.1.1.2.2.2, rfl⟩
set_option maxRecDepth 100000 in
theorem mv_X7_isPlain : sg_ok (.selects RX7 yX7_isPlain yX7_isPlain) := ⟨ts_7_192.1.2.1.1.1, rfl⟩
set_option maxRecDepth 100000 in
theorem ci_X7_isWide : sg_ok (.code yX7_isWide cX7_isWide 2 (some .boolean)) := ⟨ts_7_192.1.2.2.1.2, rfl⟩
theorem cb_X7_isWide : sg_cb mi_X7_isWide 1 := ⟨ci_X7_isWide, iz_7, nh_7, pd_4, Nat.le_of_ble_eq_true rfl⟩
set_option maxRecDepth 100000 in
theorem mn_X7_isWide : sg_ok (.instanceMethod yX7_isWide) := ⟨ts_7_192.1.2.1.2.2, rfl⟩
set_option maxRecDepth 100000 in
theorem mv_X7_isWide : sg_ok (.selects RX7 yX7_isWide yX7_isWide) := ⟨ts_7_192.1.2.2.1.1, rfl⟩
set_option maxRecDepth 100000 in
theorem ci_X7_units : sg_ok (.code yX7_units cX7_units 2 (some .int)) := ⟨ts_7_208.1.1.1.1.2, rfl⟩
theorem cb_X7_units : sg_cb mi_X7_units 1 := ⟨ci_X7_units, iz_7, nh_7, pd_6, Nat.le_of_ble_eq_true rfl⟩
set_option maxRecDepth 100000 in
theorem mn_X7_units : sg_ok (.instanceMethod yX7_units) := ⟨ts_7_192.1.2.2.2.2, rfl⟩
set_option maxRecDepth 100000 in
theorem mv_X7_units : sg_ok (.selects RX7 yX7_units yX7_units) := ⟨ts_7_208.1.1.1.1.1, rfl⟩
