set_option maxRecDepth 100000 in
theorem ml_X5_118 : sg_ok (.methodLink RX5 118 yX2_digitsOf) := ⟨ts_3_112.1.1.1.2.1, rfl⟩
set_option maxRecDepth 100000 in
theorem ml_X2_39 : sg_ok (.methodLink RX2 39 yX2_shifted) := ⟨ts_3_112.1.1.2.1.2, rfl⟩
set_option maxRecDepth 100000 in
theorem ml_X5_122 : sg_ok (.methodLink RX5 122 yX2_digitNumber) := ⟨ts_3_112.1.2.1.1.1, rfl⟩
set_option maxRecDepth 100000 in
theorem ml_L_224 : sg_ok (.methodLink RL 224 yL_spell) := ⟨ts_3_112.1.2.1.2.2, rfl⟩
set_option maxRecDepth 100000 in
theorem ml_L_53 : sg_ok (.methodLink RL 53 yX5_spell) := ⟨ts_3_112.1.2.2.2.1, rfl⟩
set_option maxRecDepth 100000 in
theorem ml_X5_132 : sg_ok (.methodLink RX5 132 yX5_checkAreTwo) := ⟨ts_3_128.1.1.1.2.1, rfl⟩
set_option maxRecDepth 100000 in
theorem ml_X5_135 : sg_ok (.methodLink RX5 135 yX0_clear) := ⟨ts_3_128.1.1.2.2.1, rfl⟩
set_option maxRecDepth 100000 in
theorem ml_X5_138 : sg_ok (.methodLink RX5 138 yX2_firstSpelled) := ⟨ts_3_128.1.2.1.2.1, rfl⟩
set_option maxRecDepth 100000 in
theorem ml_X5_141 : sg_ok (.methodLink RX5 141 yX2_secondSpelled) := ⟨ts_3_128.1.2.2.1.2, rfl⟩
