set_option maxRecDepth 100000 in
theorem mn_X7_send : sg_ok (.instanceMethod yX7_send) := ⟨ts_6_208.1.1.1.2.1, rfl⟩
set_option maxRecDepth 100000 in
theorem mv_X7_send : sg_ok (.selects RX7 yX7_send yX7_send) := ⟨ts_6_208.1.1.1.2.2, rfl⟩
set_option maxRecDepth 100000 in
theorem ci_X7_isNoTrack : sg_ok (.code yX7_isNoTrack cX7_isNoTrack 1 (some .boolean)) := ⟨ts_6_208.1.1.2.2.2, rfl⟩
theorem cb_X7_isNoTrack : sg_cb mi_X7_isNoTrack 1 := ⟨ci_X7_isNoTrack, iz_7, nh_7, pd_4, Nat.le_of_ble_eq_true rfl⟩
set_option maxRecDepth 100000 in
theorem ms_X7_isNoTrack : sg_ok (.static yX7_isNoTrack) := ⟨ts_6_208.1.1.2.2.1, rfl⟩
set_option maxRecDepth 100000 in
theorem ci_X7_sent : sg_ok (.code yX7_sent cX7_sent 1 (some (.array .int))) := ⟨ts_6_208.1.2.1.2.2, rfl⟩
theorem pd_35 : (parseMethodDescriptor "(I)[I").map (fun d => d.parameters.length) = some 1 := by decide +kernel
theorem cb_X7_sent : sg_cb mi_X7_sent 1 := ⟨ci_X7_sent, iz_7, nh_7, pd_35, Nat.le_of_ble_eq_true rfl⟩
set_option maxRecDepth 100000 in
theorem ms_X7_sent : sg_ok (.static yX7_sent) := ⟨ts_6_208.1.2.1.2.1, rfl⟩
set_option maxRecDepth 100000 in
theorem ci_X7_behind : sg_ok (.code yX7_behind cX7_behind 3 (some .int)) := ⟨ts_6_224.1.1.1.2.1, rfl⟩
theorem cb_X7_behind : sg_cb mi_X7_behind 2 := ⟨ci_X7_behind, iz_7, nh_7, pd_31, Nat.le_of_ble_eq_true rfl⟩
