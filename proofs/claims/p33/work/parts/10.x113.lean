set_option maxRecDepth 100000 in
theorem mv_X7_ofUnit : sg_ok (.selects RX7 yX7_ofUnit yX7_ofUnit) := ⟨ts_7_208.1.2.2.1.1, rfl⟩
set_option maxRecDepth 100000 in
theorem ci_X7_ofUnitTold : sg_ok (.code yX7_ofUnitTold cX7_ofUnitTold 2 (some .int)) := ⟨ts_7_224.1.1.1.1.1, rfl⟩
theorem cb_X7_ofUnitTold : sg_cb mi_X7_ofUnitTold 2 := ⟨ci_X7_ofUnitTold, iz_7, nh_7, pd_3, Nat.le_of_ble_eq_true rfl⟩
set_option maxRecDepth 100000 in
theorem ms_X7_ofUnitTold : sg_ok (.static yX7_ofUnitTold) := ⟨ts_7_208.1.2.2.2.2, rfl⟩
set_option maxRecDepth 100000 in
theorem ci_X7_compare : sg_ok (.code yX7_compare cX7_compare 3 (some .int)) := ⟨ts_7_224.1.1.2.1.1, rfl⟩
theorem cb_X7_compare : sg_cb mi_X7_compare 2 := ⟨ci_X7_compare, iz_7, nh_7, pd_3, Nat.le_of_ble_eq_true rfl⟩
set_option maxRecDepth 100000 in
theorem mn_X7_compare : sg_ok (.instanceMethod yX7_compare) := ⟨ts_7_224.1.1.1.2.1, rfl⟩
set_option maxRecDepth 100000 in
theorem mv_X7_compare : sg_ok (.selects RX7 yX7_compare yX7_compare) := ⟨ts_7_224.1.1.1.2.2, rfl⟩
set_option maxRecDepth 100000 in
theorem ci_X7_ofTrack : sg_ok (.code yX7_ofTrack cX7_ofTrack 3 (some .int)) := ⟨ts_7_224.1.2.1.1.1, rfl⟩
theorem cb_X7_ofTrack : sg_cb mi_X7_ofTrack 2 := ⟨ci_X7_ofTrack, iz_7, nh_7, pd_3, Nat.le_of_ble_eq_true rfl⟩
set_option maxRecDepth 100000 in
theorem mn_X7_ofTrack : sg_ok (.instanceMethod yX7_ofTrack) := ⟨ts_7_224.1.1.2.2.1, rfl⟩
