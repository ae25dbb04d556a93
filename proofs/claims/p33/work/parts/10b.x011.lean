set_option maxRecDepth 100000 in
theorem th_X5_110_201 : sg_th RX5 110 201 114 "java/lang/IllegalArgumentException" "the place is below 0" ["java/lang/RuntimeException", "java/lang/Exception"] := ⟨by decide +kernel, by decide +kernel, by decide +kernel, tw_X5_110, ts_4_64.1.1.2.2.1⟩
theorem tw_X5_226 : ∀ x ∈ Cond.classLink RX5 226 "java/lang/IndexOutOfBoundsException" :: Cond.initialized "java/lang/IndexOutOfBoundsException" :: vx_atS RX5 230 "java/lang/IndexOutOfBoundsException" ["java/lang/RuntimeException", "java/lang/Exception"], x ∈ lw_tbl ∧ sg_gw x = true ∧ vx_ot x = true := by decide +kernel
set_option maxRecDepth 100000 in
theorem th_X5_226_228 : sg_th RX5 226 228 230 "java/lang/IndexOutOfBoundsException" "no such word" ["java/lang/RuntimeException", "java/lang/Exception"] := ⟨by decide +kernel, by decide +kernel, by decide +kernel, tw_X5_226, ts_5_144.1.1.2.1.1⟩
set_option maxRecDepth 100000 in
theorem th_X5_110_240 : sg_th RX5 110 240 114 "java/lang/IllegalArgumentException" "no wide code" ["java/lang/RuntimeException", "java/lang/Exception"] := ⟨by decide +kernel, by decide +kernel, by decide +kernel, tw_X5_110, ts_5_160.1.1.2.1.1⟩
set_option maxRecDepth 100000 in
theorem th_X5_110_254 : sg_th RX5 110 254 114 "java/lang/IllegalArgumentException" "no high half and low half" ["java/lang/RuntimeException", "java/lang/Exception"] := ⟨by decide +kernel, by decide +kernel, by decide +kernel, tw_X5_110, ts_5_160.1.2.2.2.1⟩
set_option maxRecDepth 100000 in
theorem th_X5_110_259 : sg_th RX5 110 259 114 "java/lang/IllegalArgumentException" "what is not 0 to 3" ["java/lang/RuntimeException", "java/lang/Exception"] := ⟨by decide +kernel, by decide +kernel, by decide +kernel, tw_X5_110, ts_2_176.1.1.1.2.2⟩
set_option maxRecDepth 100000 in
theorem th_X5_226_264 : sg_th RX5 226 264 230 "java/lang/IndexOutOfBoundsException" "no such place" ["java/lang/RuntimeException", "java/lang/Exception"] := ⟨by decide +kernel, by decide +kernel, by decide +kernel, tw_X5_226, ts_4_48.1.2.1.2.1⟩
set_option maxRecDepth 100000 in
theorem th_X5_226_159 : sg_th RX5 226 159 230 "java/lang/IndexOutOfBoundsException" "no such code" ["java/lang/RuntimeException", "java/lang/Exception"] := ⟨by decide +kernel, by decide +kernel, by decide +kernel, tw_X5_226, ts_3_160.1.1.1.1.2⟩
set_option maxRecDepth 100000 in
theorem th_X5_226_310 : sg_th RX5 226 310 230 "java/lang/IndexOutOfBoundsException" "no such row" ["java/lang/RuntimeException", "java/lang/Exception"] := ⟨by decide +kernel, by decide +kernel, by decide +kernel, tw_X5_226, ts_1_192.1.1.2.1.1⟩
set_option maxRecDepth 100000 in
theorem th_X5_226_316 : sg_th RX5 226 316 230 "java/lang/IndexOutOfBoundsException" "no such track" ["java/lang/RuntimeException", "java/lang/Exception"] := ⟨by decide +kernel, by decide +kernel, by decide +kernel, tw_X5_226, ts_2_32.1.1.2.1.1⟩
