set_option maxRecDepth 100000 in
theorem ci_X5_put : sg_ok (.code yX5_put cX5_put 4 (some .int)) := ⟨ts_3_160.1.2.2.1.1, rfl⟩
theorem cb_X5_put : sg_cb mi_X5_put 2 := ⟨ci_X5_put, iz_0, nh_0, pd_3, Nat.le_of_ble_eq_true rfl⟩
set_option maxRecDepth 100000 in
theorem mn_X5_put : sg_ok (.instanceMethod yX5_put) := ⟨ts_3_160.1.2.1.2.1, rfl⟩
set_option maxRecDepth 100000 in
theorem mv_X5_put : sg_ok (.selects RX5 yX5_put yX5_put) := ⟨ts_3_160.1.2.1.2.2, rfl⟩
set_option maxRecDepth 100000 in
theorem ms_L_cut : sg_ok (.static yL_cut) := ⟨ts_3_160.1.2.2.2.1, rfl⟩
set_option maxRecDepth 100000 in
theorem ci_X5_cut : sg_ok (.code yX5_cut cX5_cut 3 (some .int)) := ⟨ts_3_176.1.1.1.2.2, rfl⟩
theorem cb_X5_cut : sg_cb mi_X5_cut 2 := ⟨ci_X5_cut, iz_0, nh_0, pd_3, Nat.le_of_ble_eq_true rfl⟩
set_option maxRecDepth 100000 in
theorem mn_X5_cut : sg_ok (.instanceMethod yX5_cut) := ⟨ts_3_176.1.1.1.1.2, rfl⟩
set_option maxRecDepth 100000 in
theorem mv_X5_cut : sg_ok (.selects RX5 yX5_cut yX5_cut) := ⟨ts_3_176.1.1.1.2.1, rfl⟩
set_option maxRecDepth 100000 in
theorem ms_L_flip : sg_ok (.static yL_flip) := ⟨ts_3_176.1.1.2.1.2, rfl⟩
