set_option maxRecDepth 100000 in
theorem ml_L_332 : sg_ok (.methodLink RL 332 yX7_order) := ⟨ts_7_176.1.2.1.2.1, rfl⟩
set_option maxRecDepth 100000 in
theorem ml_X7_222 : sg_ok (.methodLink RX7 222 yX7_orderOf) := ⟨ts_7_176.1.2.2.2.1, rfl⟩
set_option maxRecDepth 100000 in
theorem ml_L_336 : sg_ok (.methodLink RL 336 yX7_isCode) := ⟨ts_7_192.1.1.1.2.1, rfl⟩
set_option maxRecDepth 100000 in
theorem ml_L_340 : sg_ok (.methodLink RL 340 yX7_isPlain) := ⟨ts_7_192.1.1.2.2.1, rfl⟩
set_option maxRecDepth 100000 in
theorem ml_L_344 : sg_ok (.methodLink RL 344 yX7_isWide) := ⟨ts_7_192.1.2.1.2.1, rfl⟩
set_option maxRecDepth 100000 in
theorem ml_L_348 : sg_ok (.methodLink RL 348 yX7_units) := ⟨ts_7_192.1.2.2.2.1, rfl⟩
set_option maxRecDepth 100000 in
theorem ml_L_351 : sg_ok (.methodLink RL 351 yX7_half) := ⟨ts_7_208.1.1.1.2.1, rfl⟩
set_option maxRecDepth 100000 in
theorem ml_L_354 : sg_ok (.methodLink RL 354 yX7_code) := ⟨ts_7_208.1.1.2.2.1, rfl⟩
set_option maxRecDepth 100000 in
theorem ml_L_357 : sg_ok (.methodLink RL 357 yX7_ofUnit) := ⟨ts_7_208.1.2.1.2.1, rfl⟩
