set_option maxRecDepth 100000 in
theorem ml_X7_226 : sg_ok (.methodLink RX7 226 yX7_ofUnitTold) := ⟨ts_7_208.1.2.2.2.1, rfl⟩
set_option maxRecDepth 100000 in
theorem ml_L_360 : sg_ok (.methodLink RL 360 yX7_compare) := ⟨ts_7_224.1.1.1.1.2, rfl⟩
set_option maxRecDepth 100000 in
theorem ml_L_363 : sg_ok (.methodLink RL 363 yX7_ofTrack) := ⟨ts_7_224.1.1.2.1.2, rfl⟩
set_option maxRecDepth 100000 in
theorem ml_X7_229 : sg_ok (.methodLink RX7 229 yX7_trackTold) := ⟨ts_7_224.1.2.1.1.2, rfl⟩
set_option maxRecDepth 100000 in
theorem ml_L_366 : sg_ok (.methodLink RL 366 yX7_unit) := ⟨ts_7_224.1.2.2.1.2, rfl⟩
set_option maxRecDepth 100000 in
theorem ml_X7_232 : sg_ok (.methodLink RX7 232 yX7_isNoPlace) := ⟨ts_8_0.1.1.1.1.2, rfl⟩
set_option maxRecDepth 100000 in
theorem ml_L_369 : sg_ok (.methodLink RL 369 yX7_codeAt) := ⟨ts_8_0.1.1.2.1.2, rfl⟩
set_option maxRecDepth 100000 in
theorem ml_L_372 : sg_ok (.methodLink RL 372 yX7_nth) := ⟨ts_8_0.1.2.1.1.2, rfl⟩
set_option maxRecDepth 100000 in
theorem ml_L_375 : sg_ok (.methodLink RL 375 yX7_house) := ⟨ts_8_0.1.2.2.1.2, rfl⟩
