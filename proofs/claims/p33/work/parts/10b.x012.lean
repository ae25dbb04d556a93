set_option maxRecDepth 100000 in
theorem th_X5_110_321 : sg_th RX5 110 321 114 "java/lang/IllegalArgumentException" "no such sign" ["java/lang/RuntimeException", "java/lang/Exception"] := ⟨by decide +kernel, by decide +kernel, by decide +kernel, tw_X5_110, ts_2_224.1.1.2.2.2⟩
set_option maxRecDepth 100000 in
theorem th_X5_110_323 : sg_th RX5 110 323 114 "java/lang/IllegalArgumentException" "the kind is not 0 to 4" ["java/lang/RuntimeException", "java/lang/Exception"] := ⟨by decide +kernel, by decide +kernel, by decide +kernel, tw_X5_110, ts_2_112.1.1.1.1.1⟩
set_option maxRecDepth 100000 in
theorem th_X5_110_328 : sg_th RX5 110 328 114 "java/lang/IllegalArgumentException" "the radix is not 2 to 36" ["java/lang/RuntimeException", "java/lang/Exception"] := ⟨by decide +kernel, by decide +kernel, by decide +kernel, tw_X5_110, ts_2_128.1.1.1.1.1⟩
set_option maxRecDepth 100000 in
theorem th_X5_110_330 : sg_th RX5 110 330 114 "java/lang/IllegalArgumentException" "no such unit" ["java/lang/RuntimeException", "java/lang/Exception"] := ⟨by decide +kernel, by decide +kernel, by decide +kernel, tw_X5_110, ts_2_160.1.2.2.1.1⟩
set_option maxRecDepth 100000 in
theorem th_X5_110_332 : sg_th RX5 110 332 114 "java/lang/IllegalArgumentException" "both rows are the same" ["java/lang/RuntimeException", "java/lang/Exception"] := ⟨by decide +kernel, by decide +kernel, by decide +kernel, tw_X5_110, ts_3_128.1.1.2.1.2⟩
set_option maxRecDepth 100000 in
theorem th_X5_110_334 : sg_th RX5 110 334 114 "java/lang/IllegalArgumentException" "there are not so many" ["java/lang/RuntimeException", "java/lang/Exception"] := ⟨by decide +kernel, by decide +kernel, by decide +kernel, tw_X5_110, ts_3_32.1.2.2.1.1⟩


