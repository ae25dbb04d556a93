set_option maxRecDepth 100000 in
theorem ci_X5_isAlike : sg_ok (.code yX5_isAlike cX5_isAlike 6 (some .boolean)) := ⟨ts_2_144.1.1.2.2.2, rfl⟩
theorem cb_X5_isAlike : sg_cb mi_X5_isAlike 2 := ⟨ci_X5_isAlike, iz_0, nh_0, pd_10, Nat.le_of_ble_eq_true rfl⟩
set_option maxRecDepth 100000 in
theorem mn_X5_isAlike : sg_ok (.instanceMethod yX5_isAlike) := ⟨ts_2_144.1.1.2.1.2, rfl⟩
set_option maxRecDepth 100000 in
theorem mv_X5_isAlike : sg_ok (.selects RX5 yX5_isAlike yX5_isAlike) := ⟨ts_2_144.1.1.2.2.1, rfl⟩
set_option maxRecDepth 100000 in
theorem ci_X5_withTrack : sg_ok (.code yX5_withTrack cX5_withTrack 10 (some .long)) := ⟨ts_2_144.1.2.1.2.2, rfl⟩
theorem cb_X5_withTrack : sg_cb mi_X5_withTrack 2 := ⟨ci_X5_withTrack, iz_0, nh_0, pd_15, Nat.le_of_ble_eq_true rfl⟩
set_option maxRecDepth 100000 in
theorem mn_X5_withTrack : sg_ok (.instanceMethod yX5_withTrack) := ⟨ts_2_144.1.2.1.2.1, rfl⟩
theorem mv_X5_withTrack : sg_ok (.selects RX5 yX5_withTrack yX5_withTrack) := sg_oks 4 (by decide +kernel)
set_option maxRecDepth 100000 in
theorem ci_X4_howMany : sg_ok (.code yX4_howMany cX4_howMany 4 (some .int)) := ⟨ts_2_144.1.2.2.2.1, rfl⟩
theorem cb_X4_howMany : sg_cb mi_X4_howMany 2 := ⟨ci_X4_howMany, iz_5, nh_5, pd_12, Nat.le_of_ble_eq_true rfl⟩
set_option maxRecDepth 100000 in
theorem ms_X4_howMany : sg_ok (.static yX4_howMany) := ⟨ts_2_144.1.2.2.1.2, rfl⟩
