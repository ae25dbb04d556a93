set_option maxRecDepth 100000 in
theorem ci_Jx4a65c_get_915e3 : sg_ok (.code yJx4a65c_get_915e3 cJx4a65c_get_915e3 2 (some (.object "java/lang/Object"))) := ⟨ts_7_160.1.2.1.1.2, rfl⟩
theorem pd_42 : (parseMethodDescriptor "(I)Ljava/lang/Object;").map (fun d => d.parameters.length) = some 1 := by decide +kernel
theorem cb_Jx4a65c_get_915e3 : sg_cb mi_Jx4a65c_get_915e3 1 := ⟨ci_Jx4a65c_get_915e3, iz_10, nh_10, pd_42, Nat.le_of_ble_eq_true rfl⟩
set_option maxRecDepth 100000 in
theorem mn_Jx4a65c_get_915e3 : sg_ok (.instanceMethod yJx4a65c_get_915e3) := ⟨ts_7_160.1.1.2.2.2, rfl⟩
set_option maxRecDepth 100000 in
theorem mv_Jx4a65c_get_915e3 : sg_ok (.selects RJx4a65c yJx4a65c_get_915e3 yJx4a65c_get_915e3) := ⟨ts_7_160.1.2.1.1.1, rfl⟩
set_option maxRecDepth 100000 in
theorem ci_Jx4a65c_isEmpty_aae02 : sg_ok (.code yJx4a65c_isEmpty_aae02 cJx4a65c_isEmpty_aae02 1 (some .boolean)) := ⟨ts_7_32.1.1.2.1.1, rfl⟩
theorem cb_Jx4a65c_isEmpty_aae02 : sg_cb mi_Jx4a65c_isEmpty_aae02 0 := ⟨ci_Jx4a65c_isEmpty_aae02, iz_10, nh_10, pd_7, Nat.le_of_ble_eq_true rfl⟩
set_option maxRecDepth 100000 in
theorem mn_Jx4a65c_isEmpty_aae02 : sg_ok (.instanceMethod yJx4a65c_isEmpty_aae02) := ⟨ts_7_32.1.1.1.2.1, rfl⟩
set_option maxRecDepth 100000 in
theorem mv_Jx4a65c_isEmpty_aae02 : sg_ok (.selects RJx4a65c yJx4a65c_isEmpty_aae02 yJx4a65c_isEmpty_aae02) := ⟨ts_7_32.1.1.1.2.2, rfl⟩
set_option maxRecDepth 100000 in
theorem ci_Jx4a65c_remove_915e3 : sg_ok (.code yJx4a65c_remove_915e3 cJx4a65c_remove_915e3 4 (some (.object "java/lang/Object"))) := ⟨ts_6_112.1.1.1.2.2, rfl⟩
theorem cb_Jx4a65c_remove_915e3 : sg_cb mi_Jx4a65c_remove_915e3 1 := ⟨ci_Jx4a65c_remove_915e3, iz_10, nh_10, pd_42, Nat.le_of_ble_eq_true rfl⟩
