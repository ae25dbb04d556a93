set_option maxRecDepth 100000 in
theorem ci_X0_size : sg_ok (.code yX0_size cX0_size 1 (some .int)) := ⟨ts_1_224.1.1.2.1.2, rfl⟩
theorem cb_X0_size : sg_cb mi_X0_size 0 := ⟨ci_X0_size, iz_2, nh_2, pd_2, Nat.le_of_ble_eq_true rfl⟩
set_option maxRecDepth 100000 in
theorem mn_X0_size : sg_ok (.instanceMethod yX0_size) := ⟨ts_1_224.1.1.1.2.2, rfl⟩
set_option maxRecDepth 100000 in
theorem mv_X0_size : sg_ok (.selects RX0 yX0_size yX0_size) := ⟨ts_1_224.1.1.2.1.1, rfl⟩
set_option maxRecDepth 100000 in
theorem ci_X0_get : sg_ok (.code yX0_get cX0_get 2 (some .int)) := ⟨ts_1_224.1.2.1.1.2, rfl⟩
theorem cb_X0_get : sg_cb mi_X0_get 1 := ⟨ci_X0_get, iz_2, nh_2, pd_6, Nat.le_of_ble_eq_true rfl⟩
set_option maxRecDepth 100000 in
theorem mn_X0_get : sg_ok (.instanceMethod yX0_get) := ⟨ts_1_224.1.1.2.2.2, rfl⟩
set_option maxRecDepth 100000 in
theorem mv_X0_get : sg_ok (.selects RX0 yX0_get yX0_get) := ⟨ts_1_224.1.2.1.1.1, rfl⟩
set_option maxRecDepth 100000 in
theorem ci_X0_hasPlace : sg_ok (.code yX0_hasPlace cX0_hasPlace 2 (some .boolean)) := ⟨ts_1_224.1.2.2.1.2, rfl⟩
theorem cb_X0_hasPlace : sg_cb mi_X0_hasPlace 1 := ⟨ci_X0_hasPlace, iz_2, nh_2, pd_4, Nat.le_of_ble_eq_true rfl⟩
set_option maxRecDepth 100000 in
theorem mn_X0_hasPlace : sg_ok (.instanceMethod yX0_hasPlace) := ⟨ts_1_224.1.2.1.2.2, rfl⟩
