set_option maxRecDepth 100000 in
theorem cn_X7_121 : sg_ok (.constant RX7 121 57343) := ⟨ts_7_0.1.2.2.1.2, rfl⟩
set_option maxRecDepth 100000 in
theorem cn_X5_284 : sg_ok (.constantLong RX5 284 7707) := ⟨ts_2_64.1.2.2.2.1, rfl⟩
set_option maxRecDepth 100000 in
theorem cn_X5_342 : sg_ok (.constantLong RX5 342 31) := ⟨ts_2_80.1.1.2.2.1, rfl⟩
set_option maxRecDepth 100000 in
theorem cn_X7_199 : sg_ok (.constantLong RX7 199 1000003) := ⟨ts_7_144.1.1.1.1.1, rfl⟩
set_option maxRecDepth 100000 in
theorem cn_X7_238 : sg_ok (.constantLong RX7 238 7707) := ⟨ts_8_16.1.2.2.1.2, rfl⟩
set_option maxRecDepth 100000 in
theorem cn_X7_240 : sg_ok (.constantLong RX7 240 31) := ⟨ts_8_16.1.2.2.2.1, rfl⟩
set_option maxRecDepth 100000 in
theorem cl_X3_9 : sg_ok (.classLink RX3 9 "Signkinds$Line") := ⟨ts_1_32.1.2.2.1.2, rfl⟩
set_option maxRecDepth 100000 in
theorem cl_X1_9 : sg_ok (.classLink RX1 9 "Signkinds$State") := ⟨ts_1_64.1.2.1.2.2, rfl⟩
set_option maxRecDepth 100000 in
theorem cl_L_19 : sg_ok (.classLink RL 19 "java/lang/IndexOutOfBoundsException") := ⟨ts_2_208.1.1.2.2.2, rfl⟩
