set_option maxRecDepth 100000 in
theorem ml_X2_32 : sg_ok (.methodLink RX2 32 yX2_plainValueOf) := ⟨ts_2_16.1.2.2.1.1, rfl⟩
set_option maxRecDepth 100000 in
theorem ml_X2_43 : sg_ok (.methodLink RX2 43 yX2_digitOf) := ⟨ts_2_16.1.2.2.2.2, rfl⟩
set_option maxRecDepth 100000 in
theorem ml_X5_151 : sg_ok (.methodLink RX5 151 yX5_trackOf) := ⟨ts_2_32.1.1.1.1.1, rfl⟩
set_option maxRecDepth 100000 in
theorem ml_X5_281 : sg_ok (.methodLink RX5 281 yX5_isSoundTrack) := ⟨ts_2_32.1.1.2.1.2, rfl⟩
set_option maxRecDepth 100000 in
theorem ml_X5_339 : sg_ok (.methodLink RX5 339 yX4_areSentAgain) := ⟨ts_2_32.1.2.1.1.1, rfl⟩
set_option maxRecDepth 100000 in
theorem ml_X4_46 : sg_ok (.methodLink RX4 46 yX0_size) := ⟨ts_2_32.1.2.1.2.2, rfl⟩
set_option maxRecDepth 100000 in
theorem ml_X4_50 : sg_ok (.methodLink RX4 50 yX4_isCodeBegin) := ⟨ts_2_32.1.2.2.1.1, rfl⟩
set_option maxRecDepth 100000 in
theorem ml_X4_39 : sg_ok (.methodLink RX4 39 yX0_get) := ⟨ts_2_32.1.2.2.2.2, rfl⟩
set_option maxRecDepth 100000 in
theorem ml_X4_19 : sg_ok (.methodLink RX4 19 yX4_isLow) := ⟨ts_2_48.1.1.1.1.1, rfl⟩
