set_option maxRecDepth 100000 in
theorem mn_X5_compare : sg_ok (.instanceMethod yX5_compare) := ⟨ts_5_176.1.2.1.1.1, rfl⟩
set_option maxRecDepth 100000 in
theorem mv_X5_compare : sg_ok (.selects RX5 yX5_compare yX5_compare) := ⟨ts_5_176.1.2.1.1.2, rfl⟩
set_option maxRecDepth 100000 in
theorem ms_L_ofTrack : sg_ok (.static yL_ofTrack) := ⟨ts_5_176.1.2.2.1.1, rfl⟩
set_option maxRecDepth 100000 in
theorem ci_X5_ofTrack : sg_ok (.code yX5_ofTrack cX5_ofTrack 4 (some .int)) := ⟨ts_5_192.1.1.1.1.2, rfl⟩
theorem cb_X5_ofTrack : sg_cb mi_X5_ofTrack 2 := ⟨ci_X5_ofTrack, iz_0, nh_0, pd_3, Nat.le_of_ble_eq_true rfl⟩
set_option maxRecDepth 100000 in
theorem mn_X5_ofTrack : sg_ok (.instanceMethod yX5_ofTrack) := ⟨ts_5_176.1.2.2.2.2, rfl⟩
set_option maxRecDepth 100000 in
theorem mv_X5_ofTrack : sg_ok (.selects RX5 yX5_ofTrack yX5_ofTrack) := ⟨ts_5_192.1.1.1.1.1, rfl⟩
set_option maxRecDepth 100000 in
theorem ms_L_unit : sg_ok (.static yL_unit) := ⟨ts_5_192.1.1.1.2.2, rfl⟩
set_option maxRecDepth 100000 in
theorem ci_X5_unit : sg_ok (.code yX5_unit cX5_unit 3 (some .int)) := ⟨ts_5_192.1.2.1.1.1, rfl⟩
theorem cb_X5_unit : sg_cb mi_X5_unit 2 := ⟨ci_X5_unit, iz_0, nh_0, pd_3, Nat.le_of_ble_eq_true rfl⟩
