set_option maxRecDepth 100000 in
theorem ml_X5_251 : sg_ok (.methodLink RX5 251 yX4_isLow) := ⟨ts_2_160.1.2.2.2.2, rfl⟩
set_option maxRecDepth 100000 in
theorem ml_X5_170 : sg_ok (.methodLink RX5 170 yX4_turned) := ⟨ts_2_176.1.1.1.1.1, rfl⟩
set_option maxRecDepth 100000 in
theorem ml_X5_266 : sg_ok (.methodLink RX5 266 yX4_codeFrom) := ⟨ts_2_176.1.1.2.1.1, rfl⟩
set_option maxRecDepth 100000 in
theorem ml_X5_303 : sg_ok (.methodLink RX5 303 yX5_house) := ⟨ts_2_176.1.1.2.1.2, rfl⟩
set_option maxRecDepth 100000 in
theorem ml_X5_272 : sg_ok (.methodLink RX5 272 yX3_howManySigns) := ⟨ts_2_176.1.2.1.1.2, rfl⟩
set_option maxRecDepth 100000 in
theorem ml_X3_23 : sg_ok (.methodLink RX3 23 yX0_size) := ⟨ts_2_176.1.2.2.1.2, rfl⟩
set_option maxRecDepth 100000 in
theorem ml_X5_275 : sg_ok (.methodLink RX5 275 yX3_howManyUnits) := ⟨ts_2_176.1.2.2.2.1, rfl⟩
set_option maxRecDepth 100000 in
theorem ml_X5_183 : sg_ok (.methodLink RX5 183 yX1_size) := ⟨ts_2_192.1.1.1.2.1, rfl⟩
set_option maxRecDepth 100000 in
theorem ml_X5_306 : sg_ok (.methodLink RX5 306 yX5_isSound) := ⟨ts_2_192.1.1.2.2.1, rfl⟩
