theorem cb_X2_firstSpelled : sg_cb mi_X2_firstSpelled 1 := ⟨ci_X2_firstSpelled, iz_4, nh_4, pd_6, Nat.le_of_ble_eq_true rfl⟩
set_option maxRecDepth 100000 in
theorem ms_X2_firstSpelled : sg_ok (.static yX2_firstSpelled) := ⟨ts_3_128.1.2.1.2.2, rfl⟩
set_option maxRecDepth 100000 in
theorem ci_X2_secondSpelled : sg_ok (.code yX2_secondSpelled cX2_secondSpelled 1 (some .int)) := ⟨ts_3_128.1.2.2.2.2, rfl⟩
theorem cb_X2_secondSpelled : sg_cb mi_X2_secondSpelled 1 := ⟨ci_X2_secondSpelled, iz_4, nh_4, pd_6, Nat.le_of_ble_eq_true rfl⟩
set_option maxRecDepth 100000 in
theorem ms_X2_secondSpelled : sg_ok (.static yX2_secondSpelled) := ⟨ts_3_128.1.2.2.2.1, rfl⟩
set_option maxRecDepth 100000 in
theorem ms_L_read : sg_ok (.static yL_read) := ⟨ts_3_144.1.1.1.1.2, rfl⟩
set_option maxRecDepth 100000 in
theorem ci_X5_read : sg_ok (.code yX5_read cX5_read 8 (some .int)) := ⟨ts_3_144.1.1.2.2.1, rfl⟩
theorem cb_X5_read : sg_cb mi_X5_read 2 := ⟨ci_X5_read, iz_0, nh_0, pd_3, Nat.le_of_ble_eq_true rfl⟩
set_option maxRecDepth 100000 in
theorem mn_X5_read : sg_ok (.instanceMethod yX5_read) := ⟨ts_3_144.1.1.2.1.1, rfl⟩
set_option maxRecDepth 100000 in
theorem mv_X5_read : sg_ok (.selects RX5 yX5_read yX5_read) := ⟨ts_3_144.1.1.2.1.2, rfl⟩
set_option maxRecDepth 100000 in
theorem ci_X5_canBeRead : sg_ok (.code yX5_canBeRead cX5_canBeRead 2 (some .boolean)) := ⟨ts_3_144.1.2.1.1.2, rfl⟩
