set_option maxRecDepth 100000 in
theorem ml_X4_15 : sg_ok (.methodLink RX4 15 yX4_isHigh) := ⟨ts_2_48.1.1.2.1.2, rfl⟩
set_option maxRecDepth 100000 in
theorem ml_X4_57 : sg_ok (.methodLink RX4 57 yX4_codeFrom) := ⟨ts_2_48.1.2.1.1.2, rfl⟩
set_option maxRecDepth 100000 in
theorem ml_X4_42 : sg_ok (.methodLink RX4 42 yX4_codeOf) := ⟨ts_2_48.1.2.2.1.1, rfl⟩
set_option maxRecDepth 100000 in
theorem ml_X4_68 : sg_ok (.methodLink RX4 68 yX4_standsAt) := ⟨ts_2_48.1.2.2.2.2, rfl⟩
set_option maxRecDepth 100000 in
theorem ml_X4_23 : sg_ok (.methodLink RX4 23 yX4_isWideCode) := ⟨ts_2_64.1.1.1.2.1, rfl⟩
set_option maxRecDepth 100000 in
theorem ml_X4_26 : sg_ok (.methodLink RX4 26 yX4_highOf) := ⟨ts_2_64.1.1.1.2.2, rfl⟩
set_option maxRecDepth 100000 in
theorem ml_X4_36 : sg_ok (.methodLink RX4 36 yX4_lowOf) := ⟨ts_2_64.1.1.2.2.1, rfl⟩
set_option maxRecDepth 100000 in
theorem ml_X4_72 : sg_ok (.methodLink RX4 72 yX4_unitsOf) := ⟨ts_2_64.1.2.1.1.2, rfl⟩
set_option maxRecDepth 100000 in
theorem ml_L_381 : sg_ok (.methodLink RL 381 yX5_digest) := ⟨ts_2_64.1.2.1.2.1, rfl⟩
