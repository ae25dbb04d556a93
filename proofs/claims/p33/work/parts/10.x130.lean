set_option maxRecDepth 100000 in
theorem ml_X2_25 : sg_ok (.methodLink RX2 25 yX2_isOf) := ⟨ts_2_0.1.1.1.1.2, rfl⟩
set_option maxRecDepth 100000 in
theorem ml_X2_15 : sg_ok (.methodLink RX2 15 yX2_isPlainDigit) := ⟨ts_2_0.1.1.2.1.1, rfl⟩
set_option maxRecDepth 100000 in
theorem ml_X2_19 : sg_ok (.methodLink RX2 19 yX2_isAnyLetter) := ⟨ts_2_0.1.1.2.2.2, rfl⟩
set_option maxRecDepth 100000 in
theorem ml_X2_56 : sg_ok (.methodLink RX2 56 yX2_isGreatPlain) := ⟨ts_2_0.1.2.1.2.1, rfl⟩
set_option maxRecDepth 100000 in
theorem ml_X2_29 : sg_ok (.methodLink RX2 29 yX2_isSmallPlain) := ⟨ts_2_0.1.2.2.1.2, rfl⟩
set_option maxRecDepth 100000 in
theorem ml_X2_22 : sg_ok (.methodLink RX2 22 yX2_isAnyGreat) := ⟨ts_2_16.1.1.1.1.1, rfl⟩
set_option maxRecDepth 100000 in
theorem ml_X2_47 : sg_ok (.methodLink RX2 47 yX2_lowerOf) := ⟨ts_2_16.1.1.1.2.2, rfl⟩
set_option maxRecDepth 100000 in
theorem ml_X2_50 : sg_ok (.methodLink RX2 50 yX2_upperOf) := ⟨ts_2_16.1.1.2.2.1, rfl⟩
set_option maxRecDepth 100000 in
theorem ml_X2_53 : sg_ok (.methodLink RX2 53 yX2_numberOf) := ⟨ts_2_16.1.2.1.1.2, rfl⟩
