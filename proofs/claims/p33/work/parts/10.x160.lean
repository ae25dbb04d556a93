set_option maxRecDepth 100000 in
theorem ml_L_277 : sg_ok (.methodLink RL 277 yX7_lower) := ⟨ts_7_64.1.2.2.1.2, rfl⟩
set_option maxRecDepth 100000 in
theorem ml_L_280 : sg_ok (.methodLink RL 280 yX7_value) := ⟨ts_7_80.1.1.1.1.2, rfl⟩
set_option maxRecDepth 100000 in
theorem ml_L_283 : sg_ok (.methodLink RL 283 yX7_number) := ⟨ts_7_80.1.1.2.1.2, rfl⟩
set_option maxRecDepth 100000 in
theorem ml_L_287 : sg_ok (.methodLink RL 287 yX7_digit) := ⟨ts_7_80.1.2.1.1.2, rfl⟩
set_option maxRecDepth 100000 in
theorem ml_L_290 : sg_ok (.methodLink RL 290 yX7_length) := ⟨ts_7_80.1.2.2.1.2, rfl⟩
set_option maxRecDepth 100000 in
theorem ml_L_293 : sg_ok (.methodLink RL 293 yX7_at) := ⟨ts_7_96.1.1.1.1.2, rfl⟩
set_option maxRecDepth 100000 in
theorem ml_L_296 : sg_ok (.methodLink RL 296 yX7_count) := ⟨ts_7_96.1.1.2.1.2, rfl⟩
set_option maxRecDepth 100000 in
theorem ml_X7_170 : sg_ok (.methodLink RX7 170 yX7_countOf) := ⟨ts_7_96.1.2.1.1.2, rfl⟩
set_option maxRecDepth 100000 in
theorem ml_L_302 : sg_ok (.methodLink RL 302 yX7_first) := ⟨ts_7_96.1.2.2.1.2, rfl⟩
