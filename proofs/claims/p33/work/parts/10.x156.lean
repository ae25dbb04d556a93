set_option maxRecDepth 100000 in
theorem ml_X7_103 : sg_ok (.methodLink RX7 103 yX7_turned) := ⟨ts_6_176.1.1.1.2.1, rfl⟩
set_option maxRecDepth 100000 in
theorem ml_L_223 : sg_ok (.methodLink RL 223 yX7_write) := ⟨ts_6_176.1.1.2.1.2, rfl⟩
set_option maxRecDepth 100000 in
theorem ml_X7_37 : sg_ok (.methodLink RX7 37 yX7_isRadix) := ⟨ts_6_176.1.2.1.2.1, rfl⟩
set_option maxRecDepth 100000 in
theorem ml_X7_108 : sg_ok (.methodLink RX7 108 yX7_digitOf) := ⟨ts_6_176.1.2.2.1.2, rfl⟩
set_option maxRecDepth 100000 in
theorem ml_L_226 : sg_ok (.methodLink RL 226 yX7_spell) := ⟨ts_6_192.1.1.1.1.1, rfl⟩
set_option maxRecDepth 100000 in
theorem ml_X7_112 : sg_ok (.methodLink RX7 112 yX7_spelledOf) := ⟨ts_6_192.1.1.2.1.1, rfl⟩
set_option maxRecDepth 100000 in
theorem ml_L_229 : sg_ok (.methodLink RL 229 yX7_read) := ⟨ts_6_192.1.1.2.2.2, rfl⟩
set_option maxRecDepth 100000 in
theorem ml_X7_115 : sg_ok (.methodLink RX7 115 yX7_numberOf) := ⟨ts_6_192.1.2.1.2.2, rfl⟩
set_option maxRecDepth 100000 in
theorem ml_X7_33 : sg_ok (.methodLink RX7 33 yX7_valueOf) := ⟨ts_6_192.1.2.2.2.1, rfl⟩
