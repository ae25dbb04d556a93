set_option maxRecDepth 100000 in
theorem ml_L_139 : sg_ok (.methodLink RL 139 yX5_sum) := ⟨ts_5_112.1.2.2.2.1, rfl⟩
set_option maxRecDepth 100000 in
theorem ml_L_318 : sg_ok (.methodLink RL 318 yL_values) := ⟨ts_5_128.1.1.1.2.1, rfl⟩
set_option maxRecDepth 100000 in
theorem ml_L_142 : sg_ok (.methodLink RL 142 yX5_values) := ⟨ts_5_128.1.1.2.1.2, rfl⟩
set_option maxRecDepth 100000 in
theorem ml_L_321 : sg_ok (.methodLink RL 321 yL_words) := ⟨ts_5_128.1.1.2.2.1, rfl⟩
set_option maxRecDepth 100000 in
theorem ml_L_145 : sg_ok (.methodLink RL 145 yX5_words) := ⟨ts_5_128.1.2.1.1.2, rfl⟩
set_option maxRecDepth 100000 in
theorem ml_L_324 : sg_ok (.methodLink RL 324 yL_word) := ⟨ts_5_128.1.2.1.2.1, rfl⟩
set_option maxRecDepth 100000 in
theorem ml_L_148 : sg_ok (.methodLink RL 148 yX5_word) := ⟨ts_5_128.1.2.2.1.2, rfl⟩
set_option maxRecDepth 100000 in
theorem ml_X5_223 : sg_ok (.methodLink RX5 223 yX5_wordBegin) := ⟨ts_5_144.1.1.1.1.2, rfl⟩
set_option maxRecDepth 100000 in
theorem ml_L_327 : sg_ok (.methodLink RL 327 yL_isAlike) := ⟨ts_5_144.1.1.2.1.2, rfl⟩
