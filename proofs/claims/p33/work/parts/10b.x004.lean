theorem sgo_8 : sg_co (RX7, TX7, 4) tyX7 := ⟨cw_8, nmX7, tyX7_ok⟩
set_option maxRecDepth 100000 in
theorem fk_X0_9 : sg_fk RX0 9 3 0 true (.array .int) := ⟨by decide +kernel, (RX0, TX0, 2), tyX0, "Signkinds$Line", rfl, by decide +kernel, sgo_3, rfl, rfl, fun _ => rfl, ⟨ts_1_48.1.1.2.1.1, rfl⟩, Or.inl rfl⟩
set_option maxRecDepth 100000 in
theorem fk_X0_15 : sg_fk RX0 15 3 1 false .int := ⟨by decide +kernel, (RX0, TX0, 2), tyX0, "Signkinds$Line", rfl, by decide +kernel, sgo_3, rfl, rfl, fun h => (nomatch h), ⟨ts_1_48.1.1.2.1.2, rfl⟩, Or.inl rfl⟩
set_option maxRecDepth 100000 in
theorem fk_X3_11 : sg_fk RX3 11 5 0 true (.array (.object "Signkinds$Line")) := ⟨by decide +kernel, (RX3, TX3, 2), tyX3, "Signkinds$State", rfl, by decide +kernel, sgo_5, rfl, rfl, fun _ => rfl, ⟨ts_1_48.1.2.2.1.1, rfl⟩, Or.inl rfl⟩
set_option maxRecDepth 100000 in
theorem fk_X3_17 : sg_fk RX3 17 5 1 true (.array (.object "Signkinds$Line")) := ⟨by decide +kernel, (RX3, TX3, 2), tyX3, "Signkinds$State", rfl, by decide +kernel, sgo_5, rfl, rfl, fun _ => rfl, ⟨ts_1_48.1.2.2.2.1, rfl⟩, Or.inl rfl⟩
set_option maxRecDepth 100000 in
theorem fk_X1_11 : sg_fk RX1 11 4 0 true (.array (.object "Signkinds$State")) := ⟨by decide +kernel, (RX1, TX1, 2), tyX1, "Signkinds$Past", rfl, by decide +kernel, sgo_4, rfl, rfl, fun _ => rfl, ⟨ts_1_64.1.2.2.2.1, rfl⟩, Or.inl rfl⟩
set_option maxRecDepth 100000 in
theorem fk_X1_18 : sg_fk RX1 18 4 1 false .int := ⟨by decide +kernel, (RX1, TX1, 2), tyX1, "Signkinds$Past", rfl, by decide +kernel, sgo_4, rfl, rfl, fun h => (nomatch h), ⟨ts_1_64.1.2.2.2.2, rfl⟩, Or.inl rfl⟩
set_option maxRecDepth 100000 in
theorem fk_X5_10 : sg_fk RX5 10 6 0 true (.object "Signkinds$State") := ⟨by decide +kernel, (RX5, TX5, 4), tyX5, "Signkinds", rfl, by decide +kernel, sgo_6, rfl, rfl, fun _ => rfl, ⟨ts_1_80.1.1.2.2.2, rfl⟩, Or.inl rfl⟩
set_option maxRecDepth 100000 in
theorem fk_X5_19 : sg_fk RX5 19 6 1 true (.object "Signkinds$Past") := ⟨by decide +kernel, (RX5, TX5, 4), tyX5, "Signkinds", rfl, by decide +kernel, sgo_6, rfl, rfl, fun _ => rfl, ⟨ts_1_80.1.2.1.1.1, rfl⟩, Or.inl rfl⟩
set_option maxRecDepth 100000 in
theorem fk_X5_28 : sg_fk RX5 28 6 2 true (.object "Signkinds$Line") := ⟨by decide +kernel, (RX5, TX5, 4), tyX5, "Signkinds", rfl, by decide +kernel, sgo_6, rfl, rfl, fun _ => rfl, ⟨ts_1_80.1.2.1.1.2, rfl⟩, Or.inl rfl⟩
