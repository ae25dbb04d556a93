theorem cb_X7_read : sg_cb mi_X7_read 2 := ⟨ci_X7_read, iz_7, nh_7, pd_3, Nat.le_of_ble_eq_true rfl⟩
set_option maxRecDepth 100000 in
theorem mn_X7_read : sg_ok (.instanceMethod yX7_read) := ⟨ts_6_192.1.2.1.1.1, rfl⟩
set_option maxRecDepth 100000 in
theorem mv_X7_read : sg_ok (.selects RX7 yX7_read yX7_read) := ⟨ts_6_192.1.2.1.1.2, rfl⟩
set_option maxRecDepth 100000 in
theorem ci_X7_numberOf : sg_ok (.code yX7_numberOf cX7_numberOf 3 (some .int)) := ⟨ts_6_192.1.2.2.1.2, rfl⟩
theorem cb_X7_numberOf : sg_cb mi_X7_numberOf 2 := ⟨ci_X7_numberOf, iz_7, nh_7, pd_3, Nat.le_of_ble_eq_true rfl⟩
set_option maxRecDepth 100000 in
theorem ms_X7_numberOf : sg_ok (.static yX7_numberOf) := ⟨ts_6_192.1.2.2.1.1, rfl⟩
set_option maxRecDepth 100000 in
theorem ci_X7_valueOf : sg_ok (.code yX7_valueOf cX7_valueOf 1 (some .int)) := ⟨ts_6_208.1.1.1.1.1, rfl⟩
theorem cb_X7_valueOf : sg_cb mi_X7_valueOf 1 := ⟨ci_X7_valueOf, iz_7, nh_7, pd_6, Nat.le_of_ble_eq_true rfl⟩
set_option maxRecDepth 100000 in
theorem ms_X7_valueOf : sg_ok (.static yX7_valueOf) := ⟨ts_6_192.1.2.2.2.2, rfl⟩
set_option maxRecDepth 100000 in
theorem ci_X7_send : sg_ok (.code yX7_send cX7_send 3 (some .int)) := ⟨ts_6_208.1.1.2.1.1, rfl⟩
theorem cb_X7_send : sg_cb mi_X7_send 2 := ⟨ci_X7_send, iz_7, nh_7, pd_3, Nat.le_of_ble_eq_true rfl⟩
