set_option maxRecDepth 100000 in
theorem mn_Jx4a65c_remove_915e3 : sg_ok (.instanceMethod yJx4a65c_remove_915e3) := ⟨ts_6_112.1.1.1.1.2, rfl⟩
set_option maxRecDepth 100000 in
theorem mv_Jx4a65c_remove_915e3 : sg_ok (.selects RJx4a65c yJx4a65c_remove_915e3 yJx4a65c_remove_915e3) := ⟨ts_6_112.1.1.1.2.1, rfl⟩
set_option maxRecDepth 100000 in
theorem ci_Jx4a65c_size_8abf5 : sg_ok (.code yJx4a65c_size_8abf5 cJx4a65c_size_8abf5 1 (some .int)) := ⟨ts_6_96.1.2.2.2.2, rfl⟩
theorem cb_Jx4a65c_size_8abf5 : sg_cb mi_Jx4a65c_size_8abf5 0 := ⟨ci_Jx4a65c_size_8abf5, iz_10, nh_10, pd_2, Nat.le_of_ble_eq_true rfl⟩
set_option maxRecDepth 100000 in
theorem mn_Jx4a65c_size_8abf5 : sg_ok (.instanceMethod yJx4a65c_size_8abf5) := ⟨ts_6_96.1.2.2.1.2, rfl⟩
set_option maxRecDepth 100000 in
theorem mv_Jx4a65c_size_8abf5 : sg_ok (.selects RJx4a65c yJx4a65c_size_8abf5 yJx4a65c_size_8abf5) := ⟨ts_6_96.1.2.2.2.1, rfl⟩
set_option maxRecDepth 100000 in
theorem cb_L_lay : sg_ok (.codeWith yL_lay cL_lay 8 (some .int) hh_L_lay) := ⟨ts_2_208.1.1.2.2.1, rfl⟩
set_option maxRecDepth 100000 in
theorem cb_L_drop : sg_ok (.codeWith yL_drop cL_drop 5 (some .int) hh_L_drop) := ⟨ts_3_32.1.1.1.2.2, rfl⟩
set_option maxRecDepth 100000 in
theorem cb_L_copy : sg_ok (.codeWith yL_copy cL_copy 5 (some .int) hh_L_copy) := ⟨ts_3_48.1.1.1.2.2, rfl⟩
set_option maxRecDepth 100000 in
theorem cb_L_raise : sg_ok (.codeWith yL_raise cL_raise 4 (some .int) hh_L_raise) := ⟨ts_3_48.1.2.1.2.2, rfl⟩
