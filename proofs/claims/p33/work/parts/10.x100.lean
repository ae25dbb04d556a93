set_option maxRecDepth 100000 in
theorem mn_X7_isWhite : sg_ok (.instanceMethod yX7_isWhite) := ⟨ts_7_48.1.2.1.2.2, rfl⟩
set_option maxRecDepth 100000 in
theorem mv_X7_isWhite : sg_ok (.selects RX7 yX7_isWhite yX7_isWhite) := ⟨ts_7_48.1.2.2.1.1, rfl⟩
set_option maxRecDepth 100000 in
theorem ci_X7_isGreat : sg_ok (.code yX7_isGreat cX7_isGreat 2 (some .boolean)) := ⟨ts_7_64.1.1.1.1.2, rfl⟩
theorem cb_X7_isGreat : sg_cb mi_X7_isGreat 1 := ⟨ci_X7_isGreat, iz_7, nh_7, pd_4, Nat.le_of_ble_eq_true rfl⟩
set_option maxRecDepth 100000 in
theorem mn_X7_isGreat : sg_ok (.instanceMethod yX7_isGreat) := ⟨ts_7_48.1.2.2.2.2, rfl⟩
set_option maxRecDepth 100000 in
theorem mv_X7_isGreat : sg_ok (.selects RX7 yX7_isGreat yX7_isGreat) := ⟨ts_7_64.1.1.1.1.1, rfl⟩
set_option maxRecDepth 100000 in
theorem ci_X7_kinds : sg_ok (.code yX7_kinds cX7_kinds 2 (some .int)) := ⟨ts_7_64.1.1.2.1.2, rfl⟩
theorem cb_X7_kinds : sg_cb mi_X7_kinds 1 := ⟨ci_X7_kinds, iz_7, nh_7, pd_6, Nat.le_of_ble_eq_true rfl⟩
set_option maxRecDepth 100000 in
theorem mn_X7_kinds : sg_ok (.instanceMethod yX7_kinds) := ⟨ts_7_64.1.1.1.2.2, rfl⟩
set_option maxRecDepth 100000 in
theorem mv_X7_kinds : sg_ok (.selects RX7 yX7_kinds yX7_kinds) := ⟨ts_7_64.1.1.2.1.1, rfl⟩
