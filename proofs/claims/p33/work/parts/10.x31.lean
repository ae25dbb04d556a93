theorem cb_X5_isPlain : sg_cb mi_X5_isPlain 1 := ⟨ci_X5_isPlain, iz_0, nh_0, pd_4, Nat.le_of_ble_eq_true rfl⟩
set_option maxRecDepth 100000 in
theorem mn_X5_isPlain : sg_ok (.instanceMethod yX5_isPlain) := ⟨ts_1_112.1.2.2.2.1, rfl⟩
set_option maxRecDepth 100000 in
theorem mv_X5_isPlain : sg_ok (.selects RX5 yX5_isPlain yX5_isPlain) := ⟨ts_1_112.1.2.2.2.2, rfl⟩
set_option maxRecDepth 100000 in
theorem ci_X4_isUnit : sg_ok (.code yX4_isUnit cX4_isUnit 1 (some .boolean)) := ⟨ts_1_128.1.1.1.2.2, rfl⟩
theorem cb_X4_isUnit : sg_cb mi_X4_isUnit 1 := ⟨ci_X4_isUnit, iz_5, nh_5, pd_4, Nat.le_of_ble_eq_true rfl⟩
set_option maxRecDepth 100000 in
theorem ms_X4_isUnit : sg_ok (.static yX4_isUnit) := ⟨ts_1_128.1.1.1.2.1, rfl⟩
set_option maxRecDepth 100000 in
theorem ci_X5_isWide : sg_ok (.code yX5_isWide cX5_isWide 2 (some .boolean)) := ⟨ts_1_128.1.2.1.1.1, rfl⟩
theorem cb_X5_isWide : sg_cb mi_X5_isWide 1 := ⟨ci_X5_isWide, iz_0, nh_0, pd_4, Nat.le_of_ble_eq_true rfl⟩
set_option maxRecDepth 100000 in
theorem mn_X5_isWide : sg_ok (.instanceMethod yX5_isWide) := ⟨ts_1_128.1.1.2.2.1, rfl⟩
set_option maxRecDepth 100000 in
theorem mv_X5_isWide : sg_ok (.selects RX5 yX5_isWide yX5_isWide) := ⟨ts_1_128.1.1.2.2.2, rfl⟩
set_option maxRecDepth 100000 in
theorem ci_X4_isWideCode : sg_ok (.code yX4_isWideCode cX4_isWideCode 1 (some .boolean)) := ⟨ts_1_128.1.2.1.2.2, rfl⟩
