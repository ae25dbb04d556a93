set_option maxRecDepth 100000 in
theorem ml_X5_126 : sg_ok (.methodLink RX5 126 yX2_digitOf) := ⟨ts_1_96.1.2.2.1.1, rfl⟩
set_option maxRecDepth 100000 in
theorem ml_X2_36 : sg_ok (.methodLink RX2 36 yX2_isRadix) := ⟨ts_1_96.1.2.2.2.2, rfl⟩
set_option maxRecDepth 100000 in
theorem ml_X2_9 : sg_ok (.methodLink RX2 9 yX2_isBetween) := ⟨ts_1_112.1.1.1.2.1, rfl⟩
set_option maxRecDepth 100000 in
theorem ml_L_333 : sg_ok (.methodLink RL 333 yX5_isCode) := ⟨ts_1_112.1.1.2.1.2, rfl⟩
set_option maxRecDepth 100000 in
theorem ml_X5_154 : sg_ok (.methodLink RX5 154 yX4_isAnyCode) := ⟨ts_1_112.1.2.1.1.2, rfl⟩
set_option maxRecDepth 100000 in
theorem ml_L_337 : sg_ok (.methodLink RL 337 yX5_isPlain) := ⟨ts_1_112.1.2.2.1.2, rfl⟩
set_option maxRecDepth 100000 in
theorem ml_X5_234 : sg_ok (.methodLink RX5 234 yX4_isUnit) := ⟨ts_1_128.1.1.1.1.2, rfl⟩
set_option maxRecDepth 100000 in
theorem ml_L_341 : sg_ok (.methodLink RL 341 yX5_isWide) := ⟨ts_1_128.1.1.2.1.2, rfl⟩
set_option maxRecDepth 100000 in
theorem ml_X5_237 : sg_ok (.methodLink RX5 237 yX4_isWideCode) := ⟨ts_1_128.1.2.1.1.2, rfl⟩
