set_option maxRecDepth 100000 in
theorem mv_X7_ofTrack : sg_ok (.selects RX7 yX7_ofTrack yX7_ofTrack) := ⟨ts_7_224.1.1.2.2.2, rfl⟩
set_option maxRecDepth 100000 in
theorem ci_X7_trackTold : sg_ok (.code yX7_trackTold cX7_trackTold 9 (some .int)) := ⟨ts_7_224.1.2.2.1.1, rfl⟩
theorem cb_X7_trackTold : sg_cb mi_X7_trackTold 2 := ⟨ci_X7_trackTold, iz_7, nh_7, pd_3, Nat.le_of_ble_eq_true rfl⟩
set_option maxRecDepth 100000 in
theorem mn_X7_trackTold : sg_ok (.instanceMethod yX7_trackTold) := ⟨ts_7_224.1.2.1.2.2, rfl⟩
theorem mv_X7_trackTold : sg_ok (.selects RX7 yX7_trackTold yX7_trackTold) := sg_oks 24 (by decide +kernel)
set_option maxRecDepth 100000 in
theorem ci_X7_unit : sg_ok (.code yX7_unit cX7_unit 3 (some .int)) := ⟨ts_8_0.1.1.1.1.1, rfl⟩
theorem cb_X7_unit : sg_cb mi_X7_unit 2 := ⟨ci_X7_unit, iz_7, nh_7, pd_3, Nat.le_of_ble_eq_true rfl⟩
set_option maxRecDepth 100000 in
theorem mn_X7_unit : sg_ok (.instanceMethod yX7_unit) := ⟨ts_7_224.1.2.2.2.1, rfl⟩
set_option maxRecDepth 100000 in
theorem mv_X7_unit : sg_ok (.selects RX7 yX7_unit yX7_unit) := ⟨ts_7_224.1.2.2.2.2, rfl⟩
set_option maxRecDepth 100000 in
theorem ci_X7_isNoPlace : sg_ok (.code yX7_isNoPlace cX7_isNoPlace 3 (some .boolean)) := ⟨ts_8_0.1.1.2.1.1, rfl⟩
theorem cb_X7_isNoPlace : sg_cb mi_X7_isNoPlace 2 := ⟨ci_X7_isNoPlace, iz_7, nh_7, pd_10, Nat.le_of_ble_eq_true rfl⟩
