set_option maxRecDepth 100000 in
theorem ml_L_297 : sg_ok (.methodLink RL 297 yX7_thrown) := ⟨ts_6_16.1.2.2.1.2, rfl⟩
set_option maxRecDepth 100000 in
theorem ml_L_195 : sg_ok (.methodLink RL 195 yX7_lay) := ⟨ts_6_32.1.1.1.1.2, rfl⟩
set_option maxRecDepth 100000 in
theorem ml_X7_65 : sg_ok (.methodLink RX7 65 yX7_isSign) := ⟨ts_6_32.1.1.2.1.2, rfl⟩
set_option maxRecDepth 100000 in
theorem ml_X7_22 : sg_ok (.methodLink RX7 22 yX7_isOf) := ⟨ts_6_32.1.2.1.1.1, rfl⟩
set_option maxRecDepth 100000 in
theorem ml_X7_68 : sg_ok (.methodLink RX7 68 yX7_isNoRow) := ⟨ts_6_32.1.2.1.2.2, rfl⟩
set_option maxRecDepth 100000 in
theorem ml_X7_71 : sg_ok (.methodLink RX7 71 yX7_start) := ⟨ts_6_32.1.2.2.2.1, rfl⟩
set_option maxRecDepth 100000 in
theorem ml_X7_45 : sg_ok (.methodLink RX7 45 yX7_refuse) := ⟨ts_6_48.1.1.1.2.1, rfl⟩
set_option maxRecDepth 100000 in
theorem ml_X7_74 : sg_ok (.methodLink RX7 74 yX7_only) := ⟨ts_6_48.1.1.2.2.1, rfl⟩
set_option maxRecDepth 100000 in
theorem ml_X7_61 : sg_ok (.methodLink RX7 61 yX7_joined) := ⟨ts_6_48.1.2.1.1.2, rfl⟩
