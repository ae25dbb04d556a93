set_option maxRecDepth 100000 in
theorem ml_X5_261 : sg_ok (.methodLink RX5 261 yX0_hasPlace) := ⟨ts_4_48.1.2.1.1.2, rfl⟩
set_option maxRecDepth 100000 in
theorem ml_L_294 : sg_ok (.methodLink RL 294 yL_count) := ⟨ts_4_48.1.2.1.2.2, rfl⟩
set_option maxRecDepth 100000 in
theorem ml_L_116 : sg_ok (.methodLink RL 116 yX5_count) := ⟨ts_4_48.1.2.2.2.1, rfl⟩
set_option maxRecDepth 100000 in
theorem ml_L_300 : sg_ok (.methodLink RL 300 yL_first) := ⟨ts_4_48.1.2.2.2.2, rfl⟩
set_option maxRecDepth 100000 in
theorem ml_L_119 : sg_ok (.methodLink RL 119 yX5_first) := ⟨ts_4_64.1.1.1.2.1, rfl⟩
set_option maxRecDepth 100000 in
theorem ml_L_303 : sg_ok (.methodLink RL 303 yL_last) := ⟨ts_4_64.1.1.2.2.2, rfl⟩
set_option maxRecDepth 100000 in
theorem ml_L_122 : sg_ok (.methodLink RL 122 yX5_last) := ⟨ts_4_64.1.2.1.2.1, rfl⟩
set_option maxRecDepth 100000 in
theorem ml_L_306 : sg_ok (.methodLink RL 306 yL_forms) := ⟨ts_4_64.1.2.2.2.1, rfl⟩
set_option maxRecDepth 100000 in
theorem ml_L_125 : sg_ok (.methodLink RL 125 yX5_forms) := ⟨ts_4_80.1.1.1.1.2, rfl⟩
