set_option maxRecDepth 100000 in
theorem cn_X5_218 : sg_ok (.constant RX5 218 1000003) := ⟨ts_2_128.1.1.1.1.2, rfl⟩
set_option maxRecDepth 100000 in
theorem cn_X5_109 : sg_ok (.constant RX5 109 999999) := ⟨ts_3_112.1.1.1.1.1, rfl⟩
set_option maxRecDepth 100000 in
theorem cn_X7_107 : sg_ok (.constant RX7 107 999999) := ⟨ts_6_176.1.2.1.1.2, rfl⟩
set_option maxRecDepth 100000 in
theorem cn_X7_132 : sg_ok (.constant RX7 132 1114111) := ⟨ts_6_208.1.2.1.1.1, rfl⟩
set_option maxRecDepth 100000 in
theorem cn_X7_128 : sg_ok (.constant RX7 128 65536) := ⟨ts_6_208.1.2.2.1.1, rfl⟩
set_option maxRecDepth 100000 in
theorem cn_X7_118 : sg_ok (.constant RX7 118 55296) := ⟨ts_6_208.1.2.2.1.2, rfl⟩
set_option maxRecDepth 100000 in
theorem cn_X7_120 : sg_ok (.constant RX7 120 56320) := ⟨ts_6_208.1.2.2.2.1, rfl⟩
set_option maxRecDepth 100000 in
theorem cn_X7_140 : sg_ok (.constant RX7 140 65535) := ⟨ts_6_224.1.1.2.2.2, rfl⟩
set_option maxRecDepth 100000 in
theorem cn_X7_119 : sg_ok (.constant RX7 119 56319) := ⟨ts_7_0.1.2.1.1.2, rfl⟩
