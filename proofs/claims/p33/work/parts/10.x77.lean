set_option maxRecDepth 100000 in
theorem mv_X5_word : sg_ok (.selects RX5 yX5_word yX5_word) := ⟨ts_5_128.1.2.2.2.2, rfl⟩
set_option maxRecDepth 100000 in
theorem ci_X5_wordBegin : sg_ok (.code yX5_wordBegin cX5_wordBegin 4 (some .int)) := ⟨ts_5_144.1.1.1.2.2, rfl⟩
theorem cb_X5_wordBegin : sg_cb mi_X5_wordBegin 2 := ⟨ci_X5_wordBegin, iz_0, nh_0, pd_12, Nat.le_of_ble_eq_true rfl⟩
set_option maxRecDepth 100000 in
theorem ms_X5_wordBegin : sg_ok (.static yX5_wordBegin) := ⟨ts_5_144.1.1.1.2.1, rfl⟩
set_option maxRecDepth 100000 in
theorem ms_L_isAlike : sg_ok (.static yL_isAlike) := ⟨ts_5_144.1.1.2.2.1, rfl⟩
set_option maxRecDepth 100000 in
theorem ms_L_order : sg_ok (.static yL_order) := ⟨ts_5_144.1.2.1.2.1, rfl⟩
set_option maxRecDepth 100000 in
theorem ms_L_half : sg_ok (.static yL_half) := ⟨ts_5_144.1.2.2.2.1, rfl⟩
set_option maxRecDepth 100000 in
theorem ci_X5_half : sg_ok (.code yX5_half cX5_half 3 (some .int)) := ⟨ts_5_160.1.1.1.2.2, rfl⟩
theorem cb_X5_half : sg_cb mi_X5_half 2 := ⟨ci_X5_half, iz_0, nh_0, pd_25, Nat.le_of_ble_eq_true rfl⟩
set_option maxRecDepth 100000 in
theorem mn_X5_half : sg_ok (.instanceMethod yX5_half) := ⟨ts_5_160.1.1.1.1.2, rfl⟩
