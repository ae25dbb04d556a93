set_option maxRecDepth 100000 in
theorem ml_X7_86 : sg_ok (.methodLink RX7 86 yX7_upperOf) := ⟨ts_6_144.1.1.1.1.2, rfl⟩
set_option maxRecDepth 100000 in
theorem ml_X7_89 : sg_ok (.methodLink RX7 89 yX7_lowerOf) := ⟨ts_6_144.1.1.2.1.1, rfl⟩
set_option maxRecDepth 100000 in
theorem ml_X7_26 : sg_ok (.methodLink RX7 26 yX7_isKind) := ⟨ts_6_144.1.1.2.2.2, rfl⟩
set_option maxRecDepth 100000 in
theorem ml_X7_92 : sg_ok (.methodLink RX7 92 yX7_one) := ⟨ts_6_144.1.2.2.1.1, rfl⟩
set_option maxRecDepth 100000 in
theorem ml_L_209 : sg_ok (.methodLink RL 209 yX7_sink) := ⟨ts_6_144.1.2.2.2.2, rfl⟩
set_option maxRecDepth 100000 in
theorem ml_L_213 : sg_ok (.methodLink RL 213 yX7_sieve) := ⟨ts_6_160.1.1.1.2.2, rfl⟩
set_option maxRecDepth 100000 in
theorem ml_X7_100 : sg_ok (.methodLink RX7 100 yX7_isNoKind) := ⟨ts_6_160.1.1.2.2.2, rfl⟩
set_option maxRecDepth 100000 in
theorem ml_L_216 : sg_ok (.methodLink RL 216 yX7_strip) := ⟨ts_6_160.1.2.1.2.1, rfl⟩
set_option maxRecDepth 100000 in
theorem ml_L_219 : sg_ok (.methodLink RL 219 yX7_turn) := ⟨ts_6_160.1.2.2.2.1, rfl⟩
