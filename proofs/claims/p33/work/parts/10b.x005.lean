set_option maxRecDepth 100000 in
theorem fk_X5_32 : sg_fk RX5 32 6 3 false .int := ⟨by decide +kernel, (RX5, TX5, 4), tyX5, "Signkinds", rfl, by decide +kernel, sgo_6, rfl, rfl, fun h => (nomatch h), ⟨ts_1_80.1.2.1.2.1, rfl⟩, Or.inl rfl⟩
set_option maxRecDepth 100000 in
theorem fk_X7_41 : sg_fk RX7 41 8 0 false .int := ⟨by decide +kernel, (RX7, TX7, 4), tyX7, "SignkindsModel", rfl, by decide +kernel, sgo_8, rfl, rfl, fun h => (nomatch h), ⟨ts_6_16.1.1.1.1.1, rfl⟩, Or.inl rfl⟩
set_option maxRecDepth 100000 in
theorem fk_X7_9 : sg_fk RX7 9 8 1 false (.array (.array .int)) := ⟨by decide +kernel, (RX7, TX7, 4), tyX7, "SignkindsModel", rfl, by decide +kernel, sgo_8, rfl, rfl, fun h => (nomatch h), ⟨ts_6_16.1.1.1.1.2, rfl⟩, Or.inl rfl⟩
set_option maxRecDepth 100000 in
theorem fk_X7_18 : sg_fk RX7 18 8 2 true (.object "java/util/ArrayList") := ⟨by decide +kernel, (RX7, TX7, 4), tyX7, "SignkindsModel", rfl, by decide +kernel, sgo_8, rfl, rfl, fun _ => rfl, ⟨ts_6_16.1.1.1.2.1, rfl⟩, Or.inl rfl⟩
set_option maxRecDepth 100000 in
theorem fk_X7_161 : sg_fk RX7 161 8 3 false .int := ⟨by decide +kernel, (RX7, TX7, 4), tyX7, "SignkindsModel", rfl, by decide +kernel, sgo_8, rfl, rfl, fun h => (nomatch h), ⟨ts_6_16.1.1.1.2.2, rfl⟩, Or.inl rfl⟩
set_option maxRecDepth 100000 in
theorem fk_X5_312 : sg_fkN RX5 312 5 0 true (.array (.object "Signkinds$Line")) := ⟨by decide +kernel, (RX3, TX3, 2), tyX3, "Signkinds", rfl, by decide +kernel, sgo_5, rfl, rfl, ts_1_48.1.2.2.1.2⟩
set_option maxRecDepth 100000 in
theorem fk_X5_318 : sg_fkN RX5 318 5 1 true (.array (.object "Signkinds$Line")) := ⟨by decide +kernel, (RX3, TX3, 2), tyX3, "Signkinds", rfl, by decide +kernel, sgo_5, rfl, rfl, ts_1_48.1.2.2.2.2⟩
set_option maxRecDepth 100000 in
theorem fk_L_13 : sg_fkN RL 13 7 0 false .long := ⟨by decide +kernel, (RX6, TX6, 2), tyX6, "SignkindsLaw", rfl, by decide +kernel, sgo_7, rfl, rfl, ts_2_192.1.2.2.1.2⟩
set_option maxRecDepth 100000 in
theorem fk_L_129 : sg_fkN RL 129 7 1 false (.object "java/lang/String") := ⟨by decide +kernel, (RX6, TX6, 2), tyX6, "SignkindsLaw", rfl, by decide +kernel, sgo_7, rfl, rfl, ts_2_192.1.2.2.2.1⟩
