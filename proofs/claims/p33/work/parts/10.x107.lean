set_option maxRecDepth 100000 in
theorem mn_X7_sum : sg_ok (.instanceMethod yX7_sum) := ⟨ts_7_144.1.1.1.2.1, rfl⟩
set_option maxRecDepth 100000 in
theorem mv_X7_sum : sg_ok (.selects RX7 yX7_sum yX7_sum) := ⟨ts_7_144.1.1.1.2.2, rfl⟩
set_option maxRecDepth 100000 in
theorem ci_X7_values : sg_ok (.code yX7_values cX7_values 2 (some .int)) := ⟨ts_7_144.1.2.1.1.2, rfl⟩
theorem cb_X7_values : sg_cb mi_X7_values 1 := ⟨ci_X7_values, iz_7, nh_7, pd_6, Nat.le_of_ble_eq_true rfl⟩
set_option maxRecDepth 100000 in
theorem mn_X7_values : sg_ok (.instanceMethod yX7_values) := ⟨ts_7_144.1.1.2.2.2, rfl⟩
set_option maxRecDepth 100000 in
theorem mv_X7_values : sg_ok (.selects RX7 yX7_values yX7_values) := ⟨ts_7_144.1.2.1.1.1, rfl⟩
set_option maxRecDepth 100000 in
theorem ci_X7_valuesOf : sg_ok (.code yX7_valuesOf cX7_valuesOf 7 (some .int)) := ⟨ts_7_144.1.2.2.1.2, rfl⟩
theorem cb_X7_valuesOf : sg_cb mi_X7_valuesOf 1 := ⟨ci_X7_valuesOf, iz_7, nh_7, pd_6, Nat.le_of_ble_eq_true rfl⟩
set_option maxRecDepth 100000 in
theorem mn_X7_valuesOf : sg_ok (.instanceMethod yX7_valuesOf) := ⟨ts_7_144.1.2.2.1.1, rfl⟩
theorem mv_X7_valuesOf : sg_ok (.selects RX7 yX7_valuesOf yX7_valuesOf) := sg_oks 20 (by decide +kernel)
set_option maxRecDepth 100000 in
theorem ci_X7_words : sg_ok (.code yX7_words cX7_words 2 (some .int)) := ⟨ts_7_160.1.1.1.1.2, rfl⟩
