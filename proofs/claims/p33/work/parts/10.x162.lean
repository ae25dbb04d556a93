set_option maxRecDepth 100000 in
theorem ml_L_317 : sg_ok (.methodLink RL 317 yX7_sum) := ⟨ts_7_144.1.1.1.1.2, rfl⟩
set_option maxRecDepth 100000 in
theorem ml_L_320 : sg_ok (.methodLink RL 320 yX7_values) := ⟨ts_7_144.1.1.2.2.1, rfl⟩
set_option maxRecDepth 100000 in
theorem ml_X7_209 : sg_ok (.methodLink RX7 209 yX7_valuesOf) := ⟨ts_7_144.1.2.1.2.1, rfl⟩
set_option maxRecDepth 100000 in
theorem ml_L_323 : sg_ok (.methodLink RL 323 yX7_words) := ⟨ts_7_144.1.2.2.2.1, rfl⟩
set_option maxRecDepth 100000 in
theorem ml_X7_215 : sg_ok (.methodLink RX7 215 yX7_wordsOf) := ⟨ts_7_160.1.1.1.2.1, rfl⟩
set_option maxRecDepth 100000 in
theorem ml_X7_212 : sg_ok (.methodLink RX7 212 yJx4a65c_get_915e3) := ⟨ts_7_160.1.1.2.2.1, rfl⟩
set_option maxRecDepth 100000 in
theorem ml_L_326 : sg_ok (.methodLink RL 326 yX7_word) := ⟨ts_7_160.1.2.2.2.1, rfl⟩
set_option maxRecDepth 100000 in
theorem ml_L_329 : sg_ok (.methodLink RL 329 yX7_isAlike) := ⟨ts_7_176.1.1.1.2.1, rfl⟩
set_option maxRecDepth 100000 in
theorem ml_X7_219 : sg_ok (.methodLink RX7 219 yX7_areAlike) := ⟨ts_7_176.1.1.2.2.1, rfl⟩
