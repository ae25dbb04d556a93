set_option maxRecDepth 100000 in
theorem ml_L_232 : sg_ok (.methodLink RL 232 yX7_send) := ⟨ts_6_208.1.1.1.1.2, rfl⟩
set_option maxRecDepth 100000 in
theorem ml_X7_129 : sg_ok (.methodLink RX7 129 yX7_isNoTrack) := ⟨ts_6_208.1.1.2.1.2, rfl⟩
set_option maxRecDepth 100000 in
theorem ml_X7_133 : sg_ok (.methodLink RX7 133 yX7_sent) := ⟨ts_6_208.1.2.1.1.2, rfl⟩
set_option maxRecDepth 100000 in
theorem ml_X7_137 : sg_ok (.methodLink RX7 137 yX7_behind) := ⟨ts_6_208.1.2.2.2.2, rfl⟩
set_option maxRecDepth 100000 in
theorem ml_L_235 : sg_ok (.methodLink RL 235 yX7_put) := ⟨ts_6_224.1.1.1.2.2, rfl⟩
set_option maxRecDepth 100000 in
theorem ml_L_238 : sg_ok (.methodLink RL 238 yX7_cut) := ⟨ts_6_224.1.2.1.1.1, rfl⟩
set_option maxRecDepth 100000 in
theorem ml_L_241 : sg_ok (.methodLink RL 241 yX7_flip) := ⟨ts_6_224.1.2.2.1.1, rfl⟩
set_option maxRecDepth 100000 in
theorem ml_X7_141 : sg_ok (.methodLink RX7 141 yX7_turnedUnit) := ⟨ts_7_0.1.1.1.1.1, rfl⟩
set_option maxRecDepth 100000 in
theorem ml_X7_144 : sg_ok (.methodLink RX7 144 yX7_isHalf) := ⟨ts_7_0.1.1.1.2.2, rfl⟩
