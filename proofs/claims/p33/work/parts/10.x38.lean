theorem cb_X2_plainValueOf : sg_cb mi_X2_plainValueOf 1 := ⟨ci_X2_plainValueOf, iz_4, nh_4, pd_6, Nat.le_of_ble_eq_true rfl⟩
set_option maxRecDepth 100000 in
theorem ms_X2_plainValueOf : sg_ok (.static yX2_plainValueOf) := ⟨ts_2_16.1.2.2.1.2, rfl⟩
set_option maxRecDepth 100000 in
theorem ci_X5_trackOf : sg_ok (.code yX5_trackOf cX5_trackOf 2 (some (.object "Signkinds$Line"))) := ⟨ts_2_32.1.1.1.2.2, rfl⟩
theorem cb_X5_trackOf : sg_cb mi_X5_trackOf 1 := ⟨ci_X5_trackOf, iz_0, nh_0, pd_8, Nat.le_of_ble_eq_true rfl⟩
set_option maxRecDepth 100000 in
theorem mn_X5_trackOf : sg_ok (.instanceMethod yX5_trackOf) := ⟨ts_2_32.1.1.1.2.1, rfl⟩
theorem mv_X5_trackOf : sg_ok (.selects RX5 yX5_trackOf yX5_trackOf) := sg_oks 2 (by decide +kernel)
set_option maxRecDepth 100000 in
theorem ci_X5_isSoundTrack : sg_ok (.code yX5_isSoundTrack cX5_isSoundTrack 1 (some .boolean)) := ⟨ts_2_32.1.1.2.2.2, rfl⟩
theorem cb_X5_isSoundTrack : sg_cb mi_X5_isSoundTrack 1 := ⟨ci_X5_isSoundTrack, iz_0, nh_0, pd_9, Nat.le_of_ble_eq_true rfl⟩
set_option maxRecDepth 100000 in
theorem ms_X5_isSoundTrack : sg_ok (.static yX5_isSoundTrack) := ⟨ts_2_32.1.1.2.2.1, rfl⟩
set_option maxRecDepth 100000 in
theorem ci_X4_areSentAgain : sg_ok (.code yX4_areSentAgain cX4_areSentAgain 4 (some .boolean)) := ⟨ts_2_32.1.2.1.2.1, rfl⟩
theorem cb_X4_areSentAgain : sg_cb mi_X4_areSentAgain 1 := ⟨ci_X4_areSentAgain, iz_5, nh_5, pd_9, Nat.le_of_ble_eq_true rfl⟩
set_option maxRecDepth 100000 in
theorem ms_X4_areSentAgain : sg_ok (.static yX4_areSentAgain) := ⟨ts_2_32.1.2.1.1.2, rfl⟩
