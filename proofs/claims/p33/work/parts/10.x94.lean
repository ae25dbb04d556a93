set_option maxRecDepth 100000 in
theorem mn_X7_behind : sg_ok (.instanceMethod yX7_behind) := ⟨ts_6_224.1.1.1.1.2, rfl⟩
theorem mv_X7_behind : sg_ok (.selects RX7 yX7_behind yX7_behind) := sg_oks 14 (by decide +kernel)
set_option maxRecDepth 100000 in
theorem ci_X7_put : sg_ok (.code yX7_put cX7_put 3 (some .int)) := ⟨ts_6_224.1.1.2.2.1, rfl⟩
theorem cb_X7_put : sg_cb mi_X7_put 2 := ⟨ci_X7_put, iz_7, nh_7, pd_3, Nat.le_of_ble_eq_true rfl⟩
set_option maxRecDepth 100000 in
theorem mn_X7_put : sg_ok (.instanceMethod yX7_put) := ⟨ts_6_224.1.1.2.1.1, rfl⟩
set_option maxRecDepth 100000 in
theorem mv_X7_put : sg_ok (.selects RX7 yX7_put yX7_put) := ⟨ts_6_224.1.1.2.1.2, rfl⟩
set_option maxRecDepth 100000 in
theorem ci_X7_cut : sg_ok (.code yX7_cut cX7_cut 3 (some .int)) := ⟨ts_6_224.1.2.1.2.2, rfl⟩
theorem cb_X7_cut : sg_cb mi_X7_cut 2 := ⟨ci_X7_cut, iz_7, nh_7, pd_3, Nat.le_of_ble_eq_true rfl⟩
set_option maxRecDepth 100000 in
theorem mn_X7_cut : sg_ok (.instanceMethod yX7_cut) := ⟨ts_6_224.1.2.1.1.2, rfl⟩
set_option maxRecDepth 100000 in
theorem mv_X7_cut : sg_ok (.selects RX7 yX7_cut yX7_cut) := ⟨ts_6_224.1.2.1.2.1, rfl⟩
set_option maxRecDepth 100000 in
theorem ci_X7_flip : sg_ok (.code yX7_flip cX7_flip 5 (some .int)) := ⟨ts_6_224.1.2.2.2.2, rfl⟩
