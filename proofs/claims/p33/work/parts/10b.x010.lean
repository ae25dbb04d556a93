set_option maxRecDepth 100000 in
theorem nk_X7_175 : sg_nk RX7 175 1 [sg_n, sg_i 0, sg_i 0, sg_i 0] 4 := ⟨by decide +kernel, (RJ4, TJ4, 4), tyJ4, rfl, sgo_1, rfl, rfl, nv_X7_175, ⟨ts_7_112.1.2.1.2.1, rfl⟩, ⟨ts_4_80.1.1.2.2.1, rfl⟩, ⟨ts_1_16.1.2.1.1.2, rfl⟩⟩
set_option maxRecDepth 100000 in
theorem ac_int : sg_ok (.arrayClass (newarray.typeOf .int)) := ⟨ts_1_48.1.2.1.2.2, rfl⟩
set_option maxRecDepth 100000 in
theorem ac_boolean : sg_ok (.arrayClass (newarray.typeOf .boolean)) := ⟨ts_6_112.1.2.2.1.2, rfl⟩
set_option maxRecDepth 100000 in
theorem ac_byte : sg_ok (.arrayClass (newarray.typeOf .byte)) := ⟨ts_1_208.1.2.2.2.1, rfl⟩
theorem tw_X5_48 : ∀ x ∈ Cond.classLink RX5 48 "java/lang/IllegalStateException" :: Cond.initialized "java/lang/IllegalStateException" :: vx_atS RX5 52 "java/lang/IllegalStateException" ["java/lang/RuntimeException", "java/lang/Exception"], x ∈ lw_tbl ∧ sg_gw x = true ∧ vx_ot x = true := by decide +kernel
set_option maxRecDepth 100000 in
theorem th_X5_48_50 : sg_th RX5 48 50 52 "java/lang/IllegalStateException" "the row would have more than 40 signs" ["java/lang/RuntimeException", "java/lang/Exception"] := ⟨by decide +kernel, by decide +kernel, by decide +kernel, tw_X5_48, ts_3_0.1.1.2.1.2⟩
theorem tw_X5_110 : ∀ x ∈ Cond.classLink RX5 110 "java/lang/IllegalArgumentException" :: Cond.initialized "java/lang/IllegalArgumentException" :: vx_atS RX5 114 "java/lang/IllegalArgumentException" ["java/lang/RuntimeException", "java/lang/Exception"], x ∈ lw_tbl ∧ sg_gw x = true ∧ vx_ot x = true := by decide +kernel
set_option maxRecDepth 100000 in
theorem th_X5_110_112 : sg_th RX5 110 112 114 "java/lang/IllegalArgumentException" "the number is not 0 to 999999" ["java/lang/RuntimeException", "java/lang/Exception"] := ⟨by decide +kernel, by decide +kernel, by decide +kernel, tw_X5_110, ts_3_112.1.1.1.1.2⟩
set_option maxRecDepth 100000 in
theorem th_X5_110_159 : sg_th RX5 110 159 114 "java/lang/IllegalArgumentException" "no such code" ["java/lang/RuntimeException", "java/lang/Exception"] := ⟨by decide +kernel, by decide +kernel, by decide +kernel, tw_X5_110, ts_3_160.1.1.1.1.2⟩
set_option maxRecDepth 100000 in
theorem th_X5_48_184 : sg_th RX5 48 184 52 "java/lang/IllegalStateException" "no step can be undone" ["java/lang/RuntimeException", "java/lang/Exception"] := ⟨by decide +kernel, by decide +kernel, by decide +kernel, tw_X5_48, ts_3_192.1.2.2.1.2⟩
