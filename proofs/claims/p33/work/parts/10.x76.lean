set_option maxRecDepth 100000 in
theorem ci_X5_sum : sg_ok (.code yX5_sum cX5_sum 7 (some .int)) := ⟨ts_5_128.1.1.1.1.2, rfl⟩
theorem cb_X5_sum : sg_cb mi_X5_sum 2 := ⟨ci_X5_sum, iz_0, nh_0, pd_3, Nat.le_of_ble_eq_true rfl⟩
set_option maxRecDepth 100000 in
theorem mn_X5_sum : sg_ok (.instanceMethod yX5_sum) := ⟨ts_5_112.1.2.2.2.2, rfl⟩
set_option maxRecDepth 100000 in
theorem mv_X5_sum : sg_ok (.selects RX5 yX5_sum yX5_sum) := ⟨ts_5_128.1.1.1.1.1, rfl⟩
set_option maxRecDepth 100000 in
theorem ms_L_values : sg_ok (.static yL_values) := ⟨ts_5_128.1.1.1.2.2, rfl⟩
set_option maxRecDepth 100000 in
theorem ms_L_words : sg_ok (.static yL_words) := ⟨ts_5_128.1.1.2.2.2, rfl⟩
set_option maxRecDepth 100000 in
theorem ms_L_word : sg_ok (.static yL_word) := ⟨ts_5_128.1.2.1.2.2, rfl⟩
set_option maxRecDepth 100000 in
theorem ci_X5_word : sg_ok (.code yX5_word cX5_word 7 (some .int)) := ⟨ts_5_144.1.1.1.1.1, rfl⟩
theorem cb_X5_word : sg_cb mi_X5_word 3 := ⟨ci_X5_word, iz_0, nh_0, pd_22, Nat.le_of_ble_eq_true rfl⟩
set_option maxRecDepth 100000 in
theorem mn_X5_word : sg_ok (.instanceMethod yX5_word) := ⟨ts_5_128.1.2.2.2.1, rfl⟩
