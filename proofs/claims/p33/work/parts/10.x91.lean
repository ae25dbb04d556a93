set_option maxRecDepth 100000 in
theorem ci_X7_digitOf : sg_ok (.code yX7_digitOf cX7_digitOf 2 (some .int)) := ⟨ts_6_176.1.2.2.2.2, rfl⟩
theorem cb_X7_digitOf : sg_cb mi_X7_digitOf 2 := ⟨ci_X7_digitOf, iz_7, nh_7, pd_3, Nat.le_of_ble_eq_true rfl⟩
set_option maxRecDepth 100000 in
theorem ms_X7_digitOf : sg_ok (.static yX7_digitOf) := ⟨ts_6_176.1.2.2.2.1, rfl⟩
set_option maxRecDepth 100000 in
theorem ci_X7_spell : sg_ok (.code yX7_spell cX7_spell 3 (some .int)) := ⟨ts_6_192.1.1.1.2.2, rfl⟩
theorem cb_X7_spell : sg_cb mi_X7_spell 2 := ⟨ci_X7_spell, iz_7, nh_7, pd_3, Nat.le_of_ble_eq_true rfl⟩
set_option maxRecDepth 100000 in
theorem mn_X7_spell : sg_ok (.instanceMethod yX7_spell) := ⟨ts_6_192.1.1.1.1.2, rfl⟩
set_option maxRecDepth 100000 in
theorem mv_X7_spell : sg_ok (.selects RX7 yX7_spell yX7_spell) := ⟨ts_6_192.1.1.1.2.1, rfl⟩
set_option maxRecDepth 100000 in
theorem ci_X7_spelledOf : sg_ok (.code yX7_spelledOf cX7_spelledOf 3 (some (.array .int))) := ⟨ts_6_192.1.1.2.2.1, rfl⟩
theorem cb_X7_spelledOf : sg_cb mi_X7_spelledOf 1 := ⟨ci_X7_spelledOf, iz_7, nh_7, pd_34, Nat.le_of_ble_eq_true rfl⟩
set_option maxRecDepth 100000 in
theorem ms_X7_spelledOf : sg_ok (.static yX7_spelledOf) := ⟨ts_6_192.1.1.2.1.2, rfl⟩
set_option maxRecDepth 100000 in
theorem ci_X7_read : sg_ok (.code yX7_read cX7_read 8 (some .int)) := ⟨ts_6_192.1.2.1.2.1, rfl⟩
