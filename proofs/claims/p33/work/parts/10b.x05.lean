set_option maxRecDepth 100000 in
theorem fk_X1_11 : sg_fk RX1 11 4 0 true (.array (.object "Signkinds$State")) := ⟨by decide +kernel, (RX1, TX1, 2), tyX1, "Signkinds$Past", rfl, by decide +kernel, sgo_4, rfl, rfl, fun _ => rfl, ⟨ts_1_64.1.2.2.2.1, rfl⟩, Or.inl rfl⟩
set_option maxRecDepth 100000 in
theorem fk_X1_18 : sg_fk RX1 18 4 1 false .int := ⟨by decide +kernel, (RX1, TX1, 2), tyX1, "Signkinds$Past", rfl, by decide +kernel, sgo_4, rfl, rfl, fun h => (nomatch h), ⟨ts_1_64.1.2.2.2.2, rfl⟩, Or.inl rfl⟩
set_option maxRecDepth 100000 in
theorem fk_X5_10 : sg_fk RX5 10 6 0 true (.object "Signkinds$State") := ⟨by decide +kernel, (RX5, TX5, 4), tyX5, "Signkinds", rfl, by decide +kernel, sgo_6, rfl, rfl, fun _ => rfl, ⟨ts_1_80.1.1.2.2.2, rfl⟩, Or.inl rfl⟩
set_option maxRecDepth 100000 in
theorem fk_X5_19 : sg_fk RX5 19 6 1 true (.object "Signkinds$Past") := ⟨by decide +kernel, (RX5, TX5, 4), tyX5, "Signkinds", rfl, by decide +kernel, sgo_6, rfl, rfl, fun _ => rfl, ⟨ts_1_80.1.2.1.1.1, rfl⟩, Or.inl rfl⟩
set_option maxRecDepth 100000 in
theorem fk_X5_28 : sg_fk RX5 28 6 2 true (.object "Signkinds$Line") := ⟨by decide +kernel, (RX5, TX5, 4), tyX5, "Signkinds", rfl, by decide +kernel, sgo_6, rfl, rfl, fun _ => rfl, ⟨ts_1_80.1.2.1.1.2, rfl⟩, Or.inl rfl⟩
set_option maxRecDepth 100000 in
theorem fk_X5_32 : sg_fk RX5 32 6 3 false .int := ⟨by decide +kernel, (RX5, TX5, 4), tyX5, "Signkinds", rfl, by decide +kernel, sgo_6, rfl, rfl, fun h => (nomatch h), ⟨ts_1_80.1.2.1.2.1, rfl⟩, Or.inl rfl⟩
set_option maxRecDepth 100000 in
theorem fk_X7_41 : sg_fk RX7 41 8 0 false .int := ⟨by decide +kernel, (RX7, TX7, 4), tyX7, "SignkindsModel", rfl, by decide +kernel, sgo_8, rfl, rfl, fun h => (nomatch h), ⟨ts_6_16.1.1.1.1.1, rfl⟩, Or.inl rfl⟩
set_option maxRecDepth 100000 in
theorem fk_X7_9 : sg_fk RX7 9 8 1 false (.array (.array .int)) := ⟨by decide +kernel, (RX7, TX7, 4), tyX7, "SignkindsModel", rfl, by decide +kernel, sgo_8, rfl, rfl, fun h => (nomatch h), ⟨ts_6_16.1.1.1.1.2, rfl⟩, Or.inl rfl⟩
set_option maxRecDepth 100000 in
theorem fk_X7_18 : sg_fk RX7 18 8 2 true (.object "java/util/ArrayList") := ⟨by decide +kernel, (RX7, TX7, 4), tyX7, "SignkindsModel", rfl, by decide +kernel, sgo_8, rfl, rfl, fun _ => rfl, ⟨ts_6_16.1.1.1.2.1, rfl⟩, Or.inl rfl⟩
