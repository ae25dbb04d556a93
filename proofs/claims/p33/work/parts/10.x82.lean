set_option maxRecDepth 100000 in
theorem ci_X7_thrown : sg_ok (.code yX7_thrown cX7_thrown 1 (some .int)) := ⟨ts_6_32.1.1.1.1.1, rfl⟩
theorem cb_X7_thrown : sg_cb mi_X7_thrown 0 := ⟨ci_X7_thrown, iz_7, nh_7, pd_2, Nat.le_of_ble_eq_true rfl⟩
set_option maxRecDepth 100000 in
theorem mn_X7_thrown : sg_ok (.instanceMethod yX7_thrown) := ⟨ts_6_16.1.2.2.2.1, rfl⟩
set_option maxRecDepth 100000 in
theorem mv_X7_thrown : sg_ok (.selects RX7 yX7_thrown yX7_thrown) := ⟨ts_6_16.1.2.2.2.2, rfl⟩
set_option maxRecDepth 100000 in
theorem ci_X7_lay : sg_ok (.code yX7_lay cX7_lay 12 (some .int)) := ⟨ts_6_32.1.1.2.1.1, rfl⟩
theorem cb_X7_lay : sg_cb mi_X7_lay 5 := ⟨ci_X7_lay, iz_7, nh_7, pd_17, Nat.le_of_ble_eq_true rfl⟩
set_option maxRecDepth 100000 in
theorem mn_X7_lay : sg_ok (.instanceMethod yX7_lay) := ⟨ts_6_32.1.1.1.2.1, rfl⟩
set_option maxRecDepth 100000 in
theorem mv_X7_lay : sg_ok (.selects RX7 yX7_lay yX7_lay) := ⟨ts_6_32.1.1.1.2.2, rfl⟩
set_option maxRecDepth 100000 in
theorem ci_X7_isSign : sg_ok (.code yX7_isSign cX7_isSign 1 (some .boolean)) := ⟨ts_6_32.1.1.2.2.2, rfl⟩
theorem cb_X7_isSign : sg_cb mi_X7_isSign 1 := ⟨ci_X7_isSign, iz_7, nh_7, pd_4, Nat.le_of_ble_eq_true rfl⟩
set_option maxRecDepth 100000 in
theorem ms_X7_isSign : sg_ok (.static yX7_isSign) := ⟨ts_6_32.1.1.2.2.1, rfl⟩
