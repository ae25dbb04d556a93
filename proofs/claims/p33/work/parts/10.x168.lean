set_option maxRecDepth 100000 in
theorem cl_L_21 : sg_ok (.classLink RL 21 "java/lang/IllegalArgumentException") := ⟨ts_2_208.1.2.1.1.1, rfl⟩
set_option maxRecDepth 100000 in
theorem cl_L_23 : sg_ok (.classLink RL 23 "java/lang/IllegalStateException") := ⟨ts_2_208.1.2.1.1.2, rfl⟩
set_option maxRecDepth 100000 in
theorem cl_X7_7 : sg_ok (.classLink RX7 7 "[I") := ⟨ts_5_224.1.1.2.1.1, rfl⟩
set_option maxRecDepth 100000 in
theorem cl_X7_160 : sg_ok (.classLink RX7 160 "[[I") := ⟨ts_7_32.1.1.2.1.2, rfl⟩

