set_option maxRecDepth 100000 in
theorem cw_0 : ∀ x ∈ u_ws RJ0 TJ0 4, sg_ok x := fun x hx => by
  rcases List.mem_map.mp hx with ⟨j, hj, rfl⟩
  have hj := List.mem_range.mp hj
  rcases (show j = 0 ∨ j = 1 ∨ j = 2 ∨ j = 3 by omega) with rfl | rfl | rfl | rfl
  · exact ⟨ts_5_96.1.1.2.2.2, rfl⟩
  · exact ⟨ts_5_96.1.2.1.1.2, rfl⟩
  · exact ⟨ts_5_96.1.2.1.2.2, rfl⟩
  · exact ⟨ts_5_96.1.2.2.1.2, rfl⟩
theorem sgo_0 : sg_co (RJ0, TJ0, 4) tyJ0 := ⟨cw_0, nmJ0, tyJ0_ok⟩
set_option maxRecDepth 100000 in
theorem cw_1 : ∀ x ∈ u_ws RJ4 TJ4 4, sg_ok x := fun x hx => by
  rcases List.mem_map.mp hx with ⟨j, hj, rfl⟩
  have hj := List.mem_range.mp hj
  rcases (show j = 0 ∨ j = 1 ∨ j = 2 ∨ j = 3 by omega) with rfl | rfl | rfl | rfl
  · exact ⟨ts_4_96.1.2.1.2.2, rfl⟩
  · exact ⟨ts_4_96.1.2.2.1.2, rfl⟩
  · exact ⟨ts_4_96.1.2.2.2.2, rfl⟩
  · exact ⟨ts_4_112.1.1.1.1.2, rfl⟩
theorem sgo_1 : sg_co (RJ4, TJ4, 4) tyJ4 := ⟨cw_1, nmJ4, tyJ4_ok⟩
set_option maxRecDepth 100000 in
theorem cw_2 : ∀ x ∈ u_ws RJx4a65c TJx4a65c 3, sg_ok x := fun x hx => by
  rcases List.mem_map.mp hx with ⟨j, hj, rfl⟩
  have hj := List.mem_range.mp hj
  rcases (show j = 0 ∨ j = 1 ∨ j = 2 by omega) with rfl | rfl | rfl
  · exact ⟨ts_6_0.1.2.2.1.2, rfl⟩
  · exact ⟨ts_6_0.1.2.1.1.2, rfl⟩
  · exact ⟨ts_6_0.1.2.1.2.2, rfl⟩
theorem sgo_2 : sg_co (RJx4a65c, TJx4a65c, 3) tyJx4a65c := ⟨cw_2, nmJx4a65c, tyJx4a65c_ok⟩
set_option maxRecDepth 100000 in
theorem cw_3 : ∀ x ∈ u_ws RX0 TX0 2, sg_ok x := fun x hx => by
  rcases List.mem_map.mp hx with ⟨j, hj, rfl⟩
  have hj := List.mem_range.mp hj
  rcases (show j = 0 ∨ j = 1 by omega) with rfl | rfl
  · exact ⟨ts_1_48.1.1.2.2.1, rfl⟩
  · exact ⟨ts_1_48.1.2.1.1.1, rfl⟩
theorem sgo_3 : sg_co (RX0, TX0, 2) tyX0 := ⟨cw_3, nmX0, tyX0_ok⟩
set_option maxRecDepth 100000 in
theorem cw_4 : ∀ x ∈ u_ws RX1 TX1 2, sg_ok x := fun x hx => by
  rcases List.mem_map.mp hx with ⟨j, hj, rfl⟩
  have hj := List.mem_range.mp hj
  rcases (show j = 0 ∨ j = 1 by omega) with rfl | rfl
  · exact ⟨ts_1_80.1.1.1.1.1, rfl⟩
  · exact ⟨ts_1_80.1.1.1.2.1, rfl⟩
theorem sgo_4 : sg_co (RX1, TX1, 2) tyX1 := ⟨cw_4, nmX1, tyX1_ok⟩
set_option maxRecDepth 100000 in
theorem cw_5 : ∀ x ∈ u_ws RX3 TX3 2, sg_ok x := fun x hx => by
  rcases List.mem_map.mp hx with ⟨j, hj, rfl⟩
  have hj := List.mem_range.mp hj
  rcases (show j = 0 ∨ j = 1 by omega) with rfl | rfl
  · exact ⟨ts_1_64.1.1.1.1.1, rfl⟩
  · exact ⟨ts_1_64.1.1.1.2.1, rfl⟩
theorem sgo_5 : sg_co (RX3, TX3, 2) tyX3 := ⟨cw_5, nmX3, tyX3_ok⟩
set_option maxRecDepth 100000 in
theorem cw_6 : ∀ x ∈ u_ws RX5 TX5 4, sg_ok x := fun x hx => by
  rcases List.mem_map.mp hx with ⟨j, hj, rfl⟩
  have hj := List.mem_range.mp hj
  rcases (show j = 0 ∨ j = 1 ∨ j = 2 ∨ j = 3 by omega) with rfl | rfl | rfl | rfl
  · exact ⟨ts_1_80.1.2.1.2.2, rfl⟩
  · exact ⟨ts_1_80.1.2.2.1.2, rfl⟩
  · exact ⟨ts_1_80.1.2.2.2.2, rfl⟩
  · exact ⟨ts_1_96.1.1.1.1.2, rfl⟩
theorem sgo_6 : sg_co (RX5, TX5, 4) tyX5 := ⟨cw_6, nmX5, tyX5_ok⟩
set_option maxRecDepth 100000 in
theorem cw_7 : ∀ x ∈ u_ws RX6 TX6 2, sg_ok x := fun x hx => by
  rcases List.mem_map.mp hx with ⟨j, hj, rfl⟩
  have hj := List.mem_range.mp hj
  rcases (show j = 0 ∨ j = 1 by omega) with rfl | rfl
  · exact ⟨ts_2_192.1.2.2.2.2, rfl⟩
  · exact ⟨ts_2_208.1.1.1.1.2, rfl⟩
theorem sgo_7 : sg_co (RX6, TX6, 2) tyX6 := ⟨cw_7, nmX6, tyX6_ok⟩
set_option maxRecDepth 100000 in
theorem cw_8 : ∀ x ∈ u_ws RX7 TX7 4, sg_ok x := fun x hx => by
  rcases List.mem_map.mp hx with ⟨j, hj, rfl⟩
  have hj := List.mem_range.mp hj
  rcases (show j = 0 ∨ j = 1 ∨ j = 2 ∨ j = 3 by omega) with rfl | rfl | rfl | rfl
  · exact ⟨ts_6_16.1.1.2.1.1, rfl⟩
  · exact ⟨ts_6_16.1.1.2.2.1, rfl⟩
  · exact ⟨ts_6_16.1.2.1.1.1, rfl⟩
  · exact ⟨ts_6_16.1.2.1.2.1, rfl⟩
theorem sgo_8 : sg_co (RX7, TX7, 4) tyX7 := ⟨cw_8, nmX7, tyX7_ok⟩
set_option maxRecDepth 100000 in
theorem fk_X0_9 : sg_fk RX0 9 3 0 true (.array .int) := ⟨by decide +kernel, (RX0, TX0, 2), tyX0, "Signkinds$Line", rfl, by decide +kernel, sgo_3, rfl, rfl, fun _ => rfl, ⟨ts_1_48.1.1.2.1.1, rfl⟩, Or.inl rfl⟩
set_option maxRecDepth 100000 in
theorem fk_X0_15 : sg_fk RX0 15 3 1 false .int := ⟨by decide +kernel, (RX0, TX0, 2), tyX0, "Signkinds$Line", rfl, by decide +kernel, sgo_3, rfl, rfl, fun h => (nomatch h), ⟨ts_1_48.1.1.2.1.2, rfl⟩, Or.inl rfl⟩
set_option maxRecDepth 100000 in
theorem fk_X3_11 : sg_fk RX3 11 5 0 true (.array (.object "Signkinds$Line")) := ⟨by decide +kernel, (RX3, TX3, 2), tyX3, "Signkinds$State", rfl, by decide +kernel, sgo_5, rfl, rfl, fun _ => rfl, ⟨ts_1_48.1.2.2.1.1, rfl⟩, Or.inl rfl⟩
set_option maxRecDepth 100000 in
theorem fk_X3_17 : sg_fk RX3 17 5 1 true (.array (.object "Signkinds$Line")) := ⟨by decide +kernel, (RX3, TX3, 2), tyX3, "Signkinds$State", rfl, by decide +kernel, sgo_5, rfl, rfl, fun _ => rfl, ⟨ts_1_48.1.2.2.2.1, rfl⟩, Or.inl rfl⟩
set_option maxRecDepth 100000 in
theorem fk_X1_11 : sg_fk RX1 11 4 0 true (.array (.object "Signkinds$State")) := ⟨by decide +kernel, (RX1, TX1, 2), tyX1, "Signkinds$Past", rfl, by decide +kernel, sgo_4, rfl, rfl, fun _ => rfl, ⟨ts_1_64.1.2.2.2.1, rfl⟩, Or.inl rfl⟩
set_option maxRecDepth 100000 in
theorem fk_X1_18 : sg_fk RX1 18 4 1 false .int := ⟨by decide +kernel, (RX1, TX1, 2), tyX1, "Signkinds$Past", rfl, by decide +kernel, sgo_4, rfl, rfl, fun h => (nomatch h), ⟨ts_1_64.1.2.2.2.2, rfl⟩, Or.inl rfl⟩
set_option maxRecDepth 100000 in
theorem fk_X5_10 : sg_fk RX5 10 6 0 true (.object "Signkinds$State") := ⟨by decide +kernel, (RX5, TX5, 4), tyX5, "Signkinds", rfl, by decide +kernel, sgo_6, rfl, rfl, fun _ => rfl, ⟨ts_1_80.1.1.2.2.2, rfl⟩, Or.inl rfl⟩
set_option maxRecDepth 100000 in
theorem fk_X5_19 : sg_fk RX5 19 6 1 true (.object "Signkinds$Past") := ⟨by decide +kernel, (RX5, TX5, 4), tyX5, "Signkinds", rfl, by decide +kernel, sgo_6, rfl, rfl, fun _ => rfl, ⟨ts_1_80.1.2.1.1.1, rfl⟩, Or.inl rfl⟩
set_option maxRecDepth 100000 in
theorem fk_X5_28 : sg_fk RX5 28 6 2 true (.object "Signkinds$Line") := ⟨by decide +kernel, (RX5, TX5, 4), tyX5, "Signkinds", rfl, by decide +kernel, sgo_6, rfl, rfl, fun _ => rfl, ⟨ts_1_80.1.2.1.1.2, rfl⟩, Or.inl rfl⟩
set_option maxRecDepth 100000 in
theorem fk_X5_32 : sg_fk RX5 32 6 3 false .int := ⟨by decide +kernel, (RX5, TX5, 4), tyX5, "Signkinds", rfl, by decide +kernel, sgo_6, rfl, rfl, fun h => (nomatch h), ⟨ts_1_80.1.2.1.2.1, rfl⟩, Or.inl rfl⟩
set_option maxRecDepth 100000 in
theorem fk_X7_41 : sg_fk RX7 41 8 0 false .int := ⟨by decide +kernel, (RX7, TX7, 4), tyX7, "SignkindsModel", rfl, by decide +kernel, sgo_8, rfl, rfl, fun h => (nomatch h), ⟨ts_6_16.1.1.1.1.1, rfl⟩, Or.inl rfl⟩
set_option maxRecDepth 100000 in
theorem fk_X7_9 : sg_fk RX7 9 8 1 false (.array (.array .int)) := ⟨by decide +kernel, (RX7, TX7, 4), tyX7, "SignkindsModel", rfl, by decide +kernel, sgo_8, rfl, rfl, fun h => (nomatch h), ⟨ts_6_16.1.1.1.1.2, rfl⟩, Or.inl rfl⟩
set_option maxRecDepth 100000 in
theorem fk_X7_18 : sg_fk RX7 18 8 2 true (.object "java/util/ArrayList") := ⟨by decide +kernel, (RX7, TX7, 4), tyX7, "SignkindsModel", rfl, by decide +kernel, sgo_8, rfl, rfl, fun _ => rfl, ⟨ts_6_16.1.1.1.2.1, rfl⟩, Or.inl rfl⟩
set_option maxRecDepth 100000 in
theorem fk_X7_161 : sg_fk RX7 161 8 3 false .int := ⟨by decide +kernel, (RX7, TX7, 4), tyX7, "SignkindsModel", rfl, by decide +kernel, sgo_8, rfl, rfl, fun h => (nomatch h), ⟨ts_6_16.1.1.1.2.2, rfl⟩, Or.inl rfl⟩
set_option maxRecDepth 100000 in
theorem fk_X5_312 : sg_fkN RX5 312 5 0 true (.array (.object "Signkinds$Line")) := ⟨by decide +kernel, (RX3, TX3, 2), tyX3, "Signkinds", rfl, by decide +kernel, sgo_5, rfl, rfl, ts_1_48.1.2.2.1.2⟩
set_option maxRecDepth 100000 in
theorem fk_X5_318 : sg_fkN RX5 318 5 1 true (.array (.object "Signkinds$Line")) := ⟨by decide +kernel, (RX3, TX3, 2), tyX3, "Signkinds", rfl, by decide +kernel, sgo_5, rfl, rfl, ts_1_48.1.2.2.2.2⟩
set_option maxRecDepth 100000 in
theorem fk_L_13 : sg_fkN RL 13 7 0 false .long := ⟨by decide +kernel, (RX6, TX6, 2), tyX6, "SignkindsLaw", rfl, by decide +kernel, sgo_7, rfl, rfl, ts_2_192.1.2.2.1.2⟩
set_option maxRecDepth 100000 in
theorem fk_L_129 : sg_fkN RL 129 7 1 false (.object "java/lang/String") := ⟨by decide +kernel, (RX6, TX6, 2), tyX6, "SignkindsLaw", rfl, by decide +kernel, sgo_7, rfl, rfl, ts_2_192.1.2.2.2.1⟩
theorem nv_L_8 : ∀ (j : Nat) (v : sg_V), ([sg_n, sg_n, sg_n, sg_i 0] : List sg_V)[j]? = some v → sg_v v (defaultValue (tyX5 j)) := fun j v hv => by
  have hj : j < 4 := (List.getElem?_eq_some_iff.mp hv).1
  rcases (show j = 0 ∨ j = 1 ∨ j = 2 ∨ j = 3 by omega) with rfl | rfl | rfl | rfl
  · cases Option.some.inj hv; exact rfl
  · cases Option.some.inj hv; exact rfl
  · cases Option.some.inj hv; exact rfl
  · cases Option.some.inj hv; exact ⟨0, rfl, rfl⟩
set_option maxRecDepth 100000 in
theorem nk_L_8 : sg_nk RL 8 6 [sg_n, sg_n, sg_n, sg_i 0] 4 := ⟨by decide +kernel, (RX5, TX5, 4), tyX5, rfl, sgo_6, rfl, rfl, nv_L_8, ⟨ts_1_16.1.2.2.2.2, rfl⟩, ⟨ts_1_32.1.1.1.1.1, rfl⟩, ⟨ts_1_0.1.1.1.1.2, rfl⟩⟩
theorem nv_X5_7 : ∀ (j : Nat) (v : sg_V), ([sg_n, sg_n] : List sg_V)[j]? = some v → sg_v v (defaultValue (tyX3 j)) := fun j v hv => by
  have hj : j < 2 := (List.getElem?_eq_some_iff.mp hv).1
  rcases (show j = 0 ∨ j = 1 by omega) with rfl | rfl
  · cases Option.some.inj hv; exact rfl
  · cases Option.some.inj hv; exact rfl
set_option maxRecDepth 100000 in
theorem nk_X5_7 : sg_nk RX5 7 5 [sg_n, sg_n] 2 := ⟨by decide +kernel, (RX3, TX3, 2), tyX3, rfl, sgo_5, rfl, rfl, nv_X5_7, ⟨ts_1_32.1.1.2.2.2, rfl⟩, ⟨ts_1_32.1.2.1.1.1, rfl⟩, ⟨ts_1_0.1.1.1.2.1, rfl⟩⟩
theorem nv_X3_9 : ∀ (j : Nat) (v : sg_V), ([sg_n, sg_i 0] : List sg_V)[j]? = some v → sg_v v (defaultValue (tyX0 j)) := fun j v hv => by
  have hj : j < 2 := (List.getElem?_eq_some_iff.mp hv).1
  rcases (show j = 0 ∨ j = 1 by omega) with rfl | rfl
  · cases Option.some.inj hv; exact rfl
  · cases Option.some.inj hv; exact ⟨0, rfl, rfl⟩
set_option maxRecDepth 100000 in
theorem nk_X3_9 : sg_nk RX3 9 3 [sg_n, sg_i 0] 2 := ⟨by decide +kernel, (RX0, TX0, 2), tyX0, rfl, sgo_3, rfl, rfl, nv_X3_9, ⟨ts_1_32.1.2.2.1.2, rfl⟩, ⟨ts_1_32.1.2.2.2.2, rfl⟩, ⟨ts_1_0.1.1.1.2.2, rfl⟩⟩
theorem nv_X5_16 : ∀ (j : Nat) (v : sg_V), ([sg_n, sg_i 0] : List sg_V)[j]? = some v → sg_v v (defaultValue (tyX1 j)) := fun j v hv => by
  have hj : j < 2 := (List.getElem?_eq_some_iff.mp hv).1
  rcases (show j = 0 ∨ j = 1 by omega) with rfl | rfl
  · cases Option.some.inj hv; exact rfl
  · cases Option.some.inj hv; exact ⟨0, rfl, rfl⟩
set_option maxRecDepth 100000 in
theorem nk_X5_16 : sg_nk RX5 16 4 [sg_n, sg_i 0] 2 := ⟨by decide +kernel, (RX1, TX1, 2), tyX1, rfl, sgo_4, rfl, rfl, nv_X5_16, ⟨ts_1_64.1.1.2.1.2, rfl⟩, ⟨ts_1_64.1.1.2.2.1, rfl⟩, ⟨ts_1_0.1.1.2.1.1, rfl⟩⟩
theorem nv_X1_9 : ∀ (j : Nat) (v : sg_V), ([sg_n, sg_n] : List sg_V)[j]? = some v → sg_v v (defaultValue (tyX3 j)) := fun j v hv => by
  have hj : j < 2 := (List.getElem?_eq_some_iff.mp hv).1
  rcases (show j = 0 ∨ j = 1 by omega) with rfl | rfl
  · cases Option.some.inj hv; exact rfl
  · cases Option.some.inj hv; exact rfl
set_option maxRecDepth 100000 in
theorem nk_X1_9 : sg_nk RX1 9 5 [sg_n, sg_n] 2 := ⟨by decide +kernel, (RX3, TX3, 2), tyX3, rfl, sgo_5, rfl, rfl, nv_X1_9, ⟨ts_1_64.1.2.1.2.2, rfl⟩, ⟨ts_1_32.1.2.1.1.1, rfl⟩, ⟨ts_1_0.1.1.1.2.1, rfl⟩⟩
theorem nv_X5_23 : ∀ (j : Nat) (v : sg_V), ([sg_n, sg_i 0] : List sg_V)[j]? = some v → sg_v v (defaultValue (tyX0 j)) := fun j v hv => by
  have hj : j < 2 := (List.getElem?_eq_some_iff.mp hv).1
  rcases (show j = 0 ∨ j = 1 by omega) with rfl | rfl
  · cases Option.some.inj hv; exact rfl
  · cases Option.some.inj hv; exact ⟨0, rfl, rfl⟩
set_option maxRecDepth 100000 in
theorem nk_X5_23 : sg_nk RX5 23 3 [sg_n, sg_i 0] 2 := ⟨by decide +kernel, (RX0, TX0, 2), tyX0, rfl, sgo_3, rfl, rfl, nv_X5_23, ⟨ts_1_80.1.1.2.1.2, rfl⟩, ⟨ts_1_32.1.2.2.2.2, rfl⟩, ⟨ts_1_0.1.1.1.2.2, rfl⟩⟩
theorem nv_L_14 : ∀ (j : Nat) (v : sg_V), ([sg_l 0, sg_n] : List sg_V)[j]? = some v → sg_v v (defaultValue (tyX6 j)) := fun j v hv => by
  have hj : j < 2 := (List.getElem?_eq_some_iff.mp hv).1
  rcases (show j = 0 ∨ j = 1 by omega) with rfl | rfl
  · cases Option.some.inj hv; exact ⟨0, rfl, rfl⟩
  · cases Option.some.inj hv; exact rfl
set_option maxRecDepth 100000 in
theorem nk_L_14 : sg_nk RL 14 7 [sg_l 0, sg_n] 2 := ⟨by decide +kernel, (RX6, TX6, 2), tyX6, rfl, sgo_7, rfl, rfl, nv_L_14, ⟨ts_2_192.1.1.2.2.2, rfl⟩, ⟨ts_2_192.1.2.1.1.1, rfl⟩, ⟨ts_1_0.1.2.1.1.2, rfl⟩⟩
theorem nv_X5_203 : ∀ (j : Nat) (v : sg_V), ([sg_n, sg_i 0, sg_i 0, sg_i 0] : List sg_V)[j]? = some v → sg_v v (defaultValue (tyJ4 j)) := fun j v hv => by
  have hj : j < 4 := (List.getElem?_eq_some_iff.mp hv).1
  rcases (show j = 0 ∨ j = 1 ∨ j = 2 ∨ j = 3 by omega) with rfl | rfl | rfl | rfl
  · cases Option.some.inj hv; exact rfl
  · cases Option.some.inj hv; exact ⟨0, rfl, rfl⟩
  · cases Option.some.inj hv; exact ⟨0, rfl, rfl⟩
  · cases Option.some.inj hv; exact ⟨0, rfl, rfl⟩
set_option maxRecDepth 100000 in
theorem nk_X5_203 : sg_nk RX5 203 1 [sg_n, sg_i 0, sg_i 0, sg_i 0] 4 := ⟨by decide +kernel, (RJ4, TJ4, 4), tyJ4, rfl, sgo_1, rfl, rfl, nv_X5_203, ⟨ts_4_80.1.1.2.1.2, rfl⟩, ⟨ts_4_80.1.1.2.2.1, rfl⟩, ⟨ts_1_16.1.2.1.1.2, rfl⟩⟩
theorem nv_L_186 : ∀ (j : Nat) (v : sg_V), ([sg_i 0, sg_n, sg_n, sg_i 0] : List sg_V)[j]? = some v → sg_v v (defaultValue (tyX7 j)) := fun j v hv => by
  have hj : j < 4 := (List.getElem?_eq_some_iff.mp hv).1
  rcases (show j = 0 ∨ j = 1 ∨ j = 2 ∨ j = 3 by omega) with rfl | rfl | rfl | rfl
  · cases Option.some.inj hv; exact ⟨0, rfl, rfl⟩
  · cases Option.some.inj hv; exact rfl
  · cases Option.some.inj hv; exact rfl
  · cases Option.some.inj hv; exact ⟨0, rfl, rfl⟩
set_option maxRecDepth 100000 in
theorem nk_L_186 : sg_nk RL 186 8 [sg_i 0, sg_n, sg_n, sg_i 0] 4 := ⟨by decide +kernel, (RX7, TX7, 4), tyX7, rfl, sgo_8, rfl, rfl, nv_L_186, ⟨ts_5_208.1.2.2.2.1, rfl⟩, ⟨ts_5_208.1.2.2.2.2, rfl⟩, ⟨ts_1_0.1.1.2.1.2, rfl⟩⟩
theorem nv_X7_15 : ∀ (j : Nat) (v : sg_V), ([sg_i 0, sg_n, sg_i 0] : List sg_V)[j]? = some v → sg_v v (defaultValue (tyJx4a65c j)) := fun j v hv => by
  have hj : j < 3 := (List.getElem?_eq_some_iff.mp hv).1
  rcases (show j = 0 ∨ j = 1 ∨ j = 2 by omega) with rfl | rfl | rfl
  · cases Option.some.inj hv; exact ⟨0, rfl, rfl⟩
  · cases Option.some.inj hv; exact rfl
  · cases Option.some.inj hv; exact ⟨0, rfl, rfl⟩
set_option maxRecDepth 100000 in
theorem nk_X7_15 : sg_nk RX7 15 2 [sg_i 0, sg_n, sg_i 0] 3 := ⟨by decide +kernel, (RJx4a65c, TJx4a65c, 3), tyJx4a65c, rfl, sgo_2, rfl, rfl, nv_X7_15, ⟨ts_5_224.1.1.2.2.1, rfl⟩, ⟨ts_5_224.1.1.2.2.2, rfl⟩, ⟨ts_1_0.1.2.1.1.1, rfl⟩⟩
theorem nv_X7_175 : ∀ (j : Nat) (v : sg_V), ([sg_n, sg_i 0, sg_i 0, sg_i 0] : List sg_V)[j]? = some v → sg_v v (defaultValue (tyJ4 j)) := fun j v hv => by
  have hj : j < 4 := (List.getElem?_eq_some_iff.mp hv).1
  rcases (show j = 0 ∨ j = 1 ∨ j = 2 ∨ j = 3 by omega) with rfl | rfl | rfl | rfl
  · cases Option.some.inj hv; exact rfl
  · cases Option.some.inj hv; exact ⟨0, rfl, rfl⟩
  · cases Option.some.inj hv; exact ⟨0, rfl, rfl⟩
  · cases Option.some.inj hv; exact ⟨0, rfl, rfl⟩
set_option maxRecDepth 100000 in
theorem nk_X7_175 : sg_nk RX7 175 1 [sg_n, sg_i 0, sg_i 0, sg_i 0] 4 := ⟨by decide +kernel, (RJ4, TJ4, 4), tyJ4, rfl, sgo_1, rfl, rfl, nv_X7_175, ⟨ts_7_112.1.2.1.2.1, rfl⟩, ⟨ts_4_80.1.1.2.2.1, rfl⟩, ⟨ts_1_16.1.2.1.1.2, rfl⟩⟩
set_option maxRecDepth 100000 in
theorem ac_int : sg_ok (.arrayClass (newarray.typeOf .int)) := ⟨ts_1_48.1.2.1.2.2, rfl⟩
set_option maxRecDepth 100000 in
theorem ac_boolean : sg_ok (.arrayClass (newarray.typeOf .boolean)) := ⟨ts_6_112.1.2.2.1.2, rfl⟩
set_option maxRecDepth 100000 in
theorem ac_byte : sg_ok (.arrayClass (newarray.typeOf .byte)) := ⟨ts_1_208.1.2.2.2.1, rfl⟩
theorem tw_X5_48 : ∀ x ∈ Cond.classLink RX5 48 "java/lang/IllegalStateException" :: Cond.initialized "java/lang/IllegalStateException" :: vx_atS RX5 52 "java/lang/IllegalStateException" ["java/lang/RuntimeException", "java/lang/Exception"], x ∈ lw_tbl ∧ sg_gw x = true ∧ vx_ot x = true := by decide +kernel
set_option maxRecDepth 100000 in
theorem th_X5_48_50 : sg_th RX5 48 50 52 "java/lang/IllegalStateException" "the row would have more than 40 signs" ["java/lang/RuntimeException", "java/lang/Exception"] := ⟨by decide +kernel, by decide +kernel, by decide +kernel, tw_X5_48, ts_3_0.1.1.2.1.2⟩
theorem tw_X5_110 : ∀ x ∈ Cond.classLink RX5 110 "java/lang/IllegalArgumentException" :: Cond.initialized "java/lang/IllegalArgumentException" :: vx_atS RX5 114 "java/lang/IllegalArgumentException" ["java/lang/RuntimeException", "java/lang/Exception"], x ∈ lw_tbl ∧ sg_gw x = true ∧ vx_ot x = true := by decide +kernel
set_option maxRecDepth 100000 in
theorem th_X5_110_112 : sg_th RX5 110 112 114 "java/lang/IllegalArgumentException" "the number is not 0 to 999999" ["java/lang/RuntimeException", "java/lang/Exception"] := ⟨by decide +kernel, by decide +kernel, by decide +kernel, tw_X5_110, ts_3_112.1.1.1.1.2⟩
set_option maxRecDepth 100000 in
theorem th_X5_110_159 : sg_th RX5 110 159 114 "java/lang/IllegalArgumentException" "no such code" ["java/lang/RuntimeException", "java/lang/Exception"] := ⟨by decide +kernel, by decide +kernel, by decide +kernel, tw_X5_110, ts_3_160.1.1.1.1.2⟩
set_option maxRecDepth 100000 in
theorem th_X5_48_184 : sg_th RX5 48 184 52 "java/lang/IllegalStateException" "no step can be undone" ["java/lang/RuntimeException", "java/lang/Exception"] := ⟨by decide +kernel, by decide +kernel, by decide +kernel, tw_X5_48, ts_3_192.1.2.2.1.2⟩
set_option maxRecDepth 100000 in
theorem th_X5_110_201 : sg_th RX5 110 201 114 "java/lang/IllegalArgumentException" "the place is below 0" ["java/lang/RuntimeException", "java/lang/Exception"] := ⟨by decide +kernel, by decide +kernel, by decide +kernel, tw_X5_110, ts_4_64.1.1.2.2.1⟩
theorem tw_X5_226 : ∀ x ∈ Cond.classLink RX5 226 "java/lang/IndexOutOfBoundsException" :: Cond.initialized "java/lang/IndexOutOfBoundsException" :: vx_atS RX5 230 "java/lang/IndexOutOfBoundsException" ["java/lang/RuntimeException", "java/lang/Exception"], x ∈ lw_tbl ∧ sg_gw x = true ∧ vx_ot x = true := by decide +kernel
set_option maxRecDepth 100000 in
theorem th_X5_226_228 : sg_th RX5 226 228 230 "java/lang/IndexOutOfBoundsException" "no such word" ["java/lang/RuntimeException", "java/lang/Exception"] := ⟨by decide +kernel, by decide +kernel, by decide +kernel, tw_X5_226, ts_5_144.1.1.2.1.1⟩
set_option maxRecDepth 100000 in
theorem th_X5_110_240 : sg_th RX5 110 240 114 "java/lang/IllegalArgumentException" "no wide code" ["java/lang/RuntimeException", "java/lang/Exception"] := ⟨by decide +kernel, by decide +kernel, by decide +kernel, tw_X5_110, ts_5_160.1.1.2.1.1⟩
set_option maxRecDepth 100000 in
theorem th_X5_110_254 : sg_th RX5 110 254 114 "java/lang/IllegalArgumentException" "no high half and low half" ["java/lang/RuntimeException", "java/lang/Exception"] := ⟨by decide +kernel, by decide +kernel, by decide +kernel, tw_X5_110, ts_5_160.1.2.2.2.1⟩
set_option maxRecDepth 100000 in
theorem th_X5_110_259 : sg_th RX5 110 259 114 "java/lang/IllegalArgumentException" "what is not 0 to 3" ["java/lang/RuntimeException", "java/lang/Exception"] := ⟨by decide +kernel, by decide +kernel, by decide +kernel, tw_X5_110, ts_2_176.1.1.1.2.2⟩
set_option maxRecDepth 100000 in
theorem th_X5_226_264 : sg_th RX5 226 264 230 "java/lang/IndexOutOfBoundsException" "no such place" ["java/lang/RuntimeException", "java/lang/Exception"] := ⟨by decide +kernel, by decide +kernel, by decide +kernel, tw_X5_226, ts_4_48.1.2.1.2.1⟩
set_option maxRecDepth 100000 in
theorem th_X5_226_159 : sg_th RX5 226 159 230 "java/lang/IndexOutOfBoundsException" "no such code" ["java/lang/RuntimeException", "java/lang/Exception"] := ⟨by decide +kernel, by decide +kernel, by decide +kernel, tw_X5_226, ts_3_160.1.1.1.1.2⟩
set_option maxRecDepth 100000 in
theorem th_X5_226_310 : sg_th RX5 226 310 230 "java/lang/IndexOutOfBoundsException" "no such row" ["java/lang/RuntimeException", "java/lang/Exception"] := ⟨by decide +kernel, by decide +kernel, by decide +kernel, tw_X5_226, ts_1_192.1.1.2.1.1⟩
set_option maxRecDepth 100000 in
theorem th_X5_226_316 : sg_th RX5 226 316 230 "java/lang/IndexOutOfBoundsException" "no such track" ["java/lang/RuntimeException", "java/lang/Exception"] := ⟨by decide +kernel, by decide +kernel, by decide +kernel, tw_X5_226, ts_2_32.1.1.2.1.1⟩
set_option maxRecDepth 100000 in
theorem th_X5_110_321 : sg_th RX5 110 321 114 "java/lang/IllegalArgumentException" "no such sign" ["java/lang/RuntimeException", "java/lang/Exception"] := ⟨by decide +kernel, by decide +kernel, by decide +kernel, tw_X5_110, ts_2_224.1.1.2.2.2⟩
set_option maxRecDepth 100000 in
theorem th_X5_110_323 : sg_th RX5 110 323 114 "java/lang/IllegalArgumentException" "the kind is not 0 to 4" ["java/lang/RuntimeException", "java/lang/Exception"] := ⟨by decide +kernel, by decide +kernel, by decide +kernel, tw_X5_110, ts_2_112.1.1.1.1.1⟩
set_option maxRecDepth 100000 in
theorem th_X5_110_328 : sg_th RX5 110 328 114 "java/lang/IllegalArgumentException" "the radix is not 2 to 36" ["java/lang/RuntimeException", "java/lang/Exception"] := ⟨by decide +kernel, by decide +kernel, by decide +kernel, tw_X5_110, ts_2_128.1.1.1.1.1⟩
set_option maxRecDepth 100000 in
theorem th_X5_110_330 : sg_th RX5 110 330 114 "java/lang/IllegalArgumentException" "no such unit" ["java/lang/RuntimeException", "java/lang/Exception"] := ⟨by decide +kernel, by decide +kernel, by decide +kernel, tw_X5_110, ts_2_160.1.2.2.1.1⟩
set_option maxRecDepth 100000 in
theorem th_X5_110_332 : sg_th RX5 110 332 114 "java/lang/IllegalArgumentException" "both rows are the same" ["java/lang/RuntimeException", "java/lang/Exception"] := ⟨by decide +kernel, by decide +kernel, by decide +kernel, tw_X5_110, ts_3_128.1.1.2.1.2⟩
set_option maxRecDepth 100000 in
theorem th_X5_110_334 : sg_th RX5 110 334 114 "java/lang/IllegalArgumentException" "there are not so many" ["java/lang/RuntimeException", "java/lang/Exception"] := ⟨by decide +kernel, by decide +kernel, by decide +kernel, tw_X5_110, ts_3_32.1.2.2.1.1⟩

