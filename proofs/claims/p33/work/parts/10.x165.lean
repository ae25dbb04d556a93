set_option maxRecDepth 100000 in
theorem ml_X7_235 : sg_ok (.methodLink RX7 235 yX7_houseOf) := ⟨ts_8_16.1.1.1.1.2, rfl⟩
set_option maxRecDepth 100000 in
theorem ml_L_380 : sg_ok (.methodLink RL 380 yX7_isSound) := ⟨ts_8_16.1.1.2.1.2, rfl⟩
set_option maxRecDepth 100000 in
theorem ml_L_385 : sg_ok (.methodLink RL 385 yX7_digest) := ⟨ts_8_16.1.2.1.1.2, rfl⟩
set_option maxRecDepth 100000 in
theorem ml_X7_242 : sg_ok (.methodLink RX7 242 yX7_isSound) := ⟨ts_8_16.1.2.2.2.2, rfl⟩
set_option maxRecDepth 100000 in
theorem cn_X4_22 : sg_ok (.constant RX4 22 1114111) := ⟨ts_1_112.1.2.2.1.1, rfl⟩
set_option maxRecDepth 100000 in
theorem cn_X4_11 : sg_ok (.constant RX4 11 65536) := ⟨ts_1_128.1.1.2.1.1, rfl⟩
set_option maxRecDepth 100000 in
theorem cn_X4_13 : sg_ok (.constant RX4 13 56320) := ⟨ts_2_48.1.1.1.2.2, rfl⟩
set_option maxRecDepth 100000 in
theorem cn_X4_14 : sg_ok (.constant RX4 14 57344) := ⟨ts_2_48.1.1.2.1.1, rfl⟩
set_option maxRecDepth 100000 in
theorem cn_X4_12 : sg_ok (.constant RX4 12 55296) := ⟨ts_2_48.1.2.1.1.1, rfl⟩
