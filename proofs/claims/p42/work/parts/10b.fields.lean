set_option maxRecDepth 100000 in
theorem cw_0 : ∀ x ∈ u_ws RJ0 TJ0 4, sg_ok x := fun x hx => by
  rcases List.mem_map.mp hx with ⟨j, hj, rfl⟩
  have hj := List.mem_range.mp hj
  rcases (show j = 0 ∨ j = 1 ∨ j = 2 ∨ j = 3 by omega) with rfl | rfl | rfl | rfl
  · exact ⟨(tm_5 (List.mem_of_getElem? (i := 103) rfl)), rfl⟩
  · exact ⟨(tm_5 (List.mem_of_getElem? (i := 105) rfl)), rfl⟩
  · exact ⟨(tm_5 (List.mem_of_getElem? (i := 107) rfl)), rfl⟩
  · exact ⟨(tm_5 (List.mem_of_getElem? (i := 109) rfl)), rfl⟩
theorem sgo_0 : sg_co (RJ0, TJ0, 4) tyJ0 := ⟨cw_0, nmJ0, tyJ0_ok⟩
set_option maxRecDepth 100000 in
theorem cw_1 : ∀ x ∈ u_ws RJ4 TJ4 4, sg_ok x := fun x hx => by
  rcases List.mem_map.mp hx with ⟨j, hj, rfl⟩
  have hj := List.mem_range.mp hj
  rcases (show j = 0 ∨ j = 1 ∨ j = 2 ∨ j = 3 by omega) with rfl | rfl | rfl | rfl
  · exact ⟨(tm_4 (List.mem_of_getElem? (i := 107) rfl)), rfl⟩
  · exact ⟨(tm_4 (List.mem_of_getElem? (i := 109) rfl)), rfl⟩
  · exact ⟨(tm_4 (List.mem_of_getElem? (i := 111) rfl)), rfl⟩
  · exact ⟨(tm_4 (List.mem_of_getElem? (i := 113) rfl)), rfl⟩
theorem sgo_1 : sg_co (RJ4, TJ4, 4) tyJ4 := ⟨cw_1, nmJ4, tyJ4_ok⟩
set_option maxRecDepth 100000 in
theorem cw_2 : ∀ x ∈ u_ws RJx4a65c TJx4a65c 3, sg_ok x := fun x hx => by
  rcases List.mem_map.mp hx with ⟨j, hj, rfl⟩
  have hj := List.mem_range.mp hj
  rcases (show j = 0 ∨ j = 1 ∨ j = 2 by omega) with rfl | rfl | rfl
  · exact ⟨(tm_6 (List.mem_of_getElem? (i := 13) rfl)), rfl⟩
  · exact ⟨(tm_6 (List.mem_of_getElem? (i := 9) rfl)), rfl⟩
  · exact ⟨(tm_6 (List.mem_of_getElem? (i := 11) rfl)), rfl⟩
theorem sgo_2 : sg_co (RJx4a65c, TJx4a65c, 3) tyJx4a65c := ⟨cw_2, nmJx4a65c, tyJx4a65c_ok⟩
set_option maxRecDepth 100000 in
theorem cw_3 : ∀ x ∈ u_ws RX0 TX0 2, sg_ok x := fun x hx => by
  rcases List.mem_map.mp hx with ⟨j, hj, rfl⟩
  have hj := List.mem_range.mp hj
  rcases (show j = 0 ∨ j = 1 by omega) with rfl | rfl
  · exact ⟨(tm_1 (List.mem_of_getElem? (i := 54) rfl)), rfl⟩
  · exact ⟨(tm_1 (List.mem_of_getElem? (i := 56) rfl)), rfl⟩
theorem sgo_3 : sg_co (RX0, TX0, 2) tyX0 := ⟨cw_3, nmX0, tyX0_ok⟩
set_option maxRecDepth 100000 in
theorem cw_4 : ∀ x ∈ u_ws RX1 TX1 2, sg_ok x := fun x hx => by
  rcases List.mem_map.mp hx with ⟨j, hj, rfl⟩
  have hj := List.mem_range.mp hj
  rcases (show j = 0 ∨ j = 1 by omega) with rfl | rfl
  · exact ⟨(tm_1 (List.mem_of_getElem? (i := 80) rfl)), rfl⟩
  · exact ⟨(tm_1 (List.mem_of_getElem? (i := 82) rfl)), rfl⟩
theorem sgo_4 : sg_co (RX1, TX1, 2) tyX1 := ⟨cw_4, nmX1, tyX1_ok⟩
set_option maxRecDepth 100000 in
theorem cw_5 : ∀ x ∈ u_ws RX3 TX3 2, sg_ok x := fun x hx => by
  rcases List.mem_map.mp hx with ⟨j, hj, rfl⟩
  have hj := List.mem_range.mp hj
  rcases (show j = 0 ∨ j = 1 by omega) with rfl | rfl
  · exact ⟨(tm_1 (List.mem_of_getElem? (i := 64) rfl)), rfl⟩
  · exact ⟨(tm_1 (List.mem_of_getElem? (i := 66) rfl)), rfl⟩
theorem sgo_5 : sg_co (RX3, TX3, 2) tyX3 := ⟨cw_5, nmX3, tyX3_ok⟩
set_option maxRecDepth 100000 in
theorem cw_6 : ∀ x ∈ u_ws RX5 TX5 4, sg_ok x := fun x hx => by
  rcases List.mem_map.mp hx with ⟨j, hj, rfl⟩
  have hj := List.mem_range.mp hj
  rcases (show j = 0 ∨ j = 1 ∨ j = 2 ∨ j = 3 by omega) with rfl | rfl | rfl | rfl
  · exact ⟨(tm_1 (List.mem_of_getElem? (i := 91) rfl)), rfl⟩
  · exact ⟨(tm_1 (List.mem_of_getElem? (i := 93) rfl)), rfl⟩
  · exact ⟨(tm_1 (List.mem_of_getElem? (i := 95) rfl)), rfl⟩
  · exact ⟨(tm_1 (List.mem_of_getElem? (i := 97) rfl)), rfl⟩
theorem sgo_6 : sg_co (RX5, TX5, 4) tyX5 := ⟨cw_6, nmX5, tyX5_ok⟩
set_option maxRecDepth 100000 in
theorem cw_7 : ∀ x ∈ u_ws RX6 TX6 2, sg_ok x := fun x hx => by
  rcases List.mem_map.mp hx with ⟨j, hj, rfl⟩
  have hj := List.mem_range.mp hj
  rcases (show j = 0 ∨ j = 1 by omega) with rfl | rfl
  · exact ⟨(tm_2 (List.mem_of_getElem? (i := 207) rfl)), rfl⟩
  · exact ⟨(tm_2 (List.mem_of_getElem? (i := 209) rfl)), rfl⟩
theorem sgo_7 : sg_co (RX6, TX6, 2) tyX6 := ⟨cw_7, nmX6, tyX6_ok⟩
set_option maxRecDepth 100000 in
theorem cw_8 : ∀ x ∈ u_ws RX7 TX7 4, sg_ok x := fun x hx => by
  rcases List.mem_map.mp hx with ⟨j, hj, rfl⟩
  have hj := List.mem_range.mp hj
  rcases (show j = 0 ∨ j = 1 ∨ j = 2 ∨ j = 3 by omega) with rfl | rfl | rfl | rfl
  · exact ⟨(tm_6 (List.mem_of_getElem? (i := 20) rfl)), rfl⟩
  · exact ⟨(tm_6 (List.mem_of_getElem? (i := 22) rfl)), rfl⟩
  · exact ⟨(tm_6 (List.mem_of_getElem? (i := 24) rfl)), rfl⟩
  · exact ⟨(tm_6 (List.mem_of_getElem? (i := 26) rfl)), rfl⟩
theorem sgo_8 : sg_co (RX7, TX7, 4) tyX7 := ⟨cw_8, nmX7, tyX7_ok⟩
set_option maxRecDepth 100000 in
theorem fk_X0_9 : sg_fk RX0 9 3 0 true (.array .int) := ⟨by decide +kernel, (RX0, TX0, 2), tyX0, "Signkinds$Line", rfl, by decide +kernel, sgo_3, rfl, rfl, fun _ => rfl, ⟨(tm_1 (List.mem_of_getElem? (i := 52) rfl)), rfl⟩, Or.inl rfl⟩
set_option maxRecDepth 100000 in
theorem fk_X0_15 : sg_fk RX0 15 3 1 false .int := ⟨by decide +kernel, (RX0, TX0, 2), tyX0, "Signkinds$Line", rfl, by decide +kernel, sgo_3, rfl, rfl, fun h => (nomatch h), ⟨(tm_1 (List.mem_of_getElem? (i := 53) rfl)), rfl⟩, Or.inl rfl⟩
set_option maxRecDepth 100000 in
theorem fk_X3_11 : sg_fk RX3 11 5 0 true (.array (.object "Signkinds$Line")) := ⟨by decide +kernel, (RX3, TX3, 2), tyX3, "Signkinds$State", rfl, by decide +kernel, sgo_5, rfl, rfl, fun _ => rfl, ⟨(tm_1 (List.mem_of_getElem? (i := 60) rfl)), rfl⟩, Or.inl rfl⟩
set_option maxRecDepth 100000 in
theorem fk_X3_17 : sg_fk RX3 17 5 1 true (.array (.object "Signkinds$Line")) := ⟨by decide +kernel, (RX3, TX3, 2), tyX3, "Signkinds$State", rfl, by decide +kernel, sgo_5, rfl, rfl, fun _ => rfl, ⟨(tm_1 (List.mem_of_getElem? (i := 62) rfl)), rfl⟩, Or.inl rfl⟩
set_option maxRecDepth 100000 in
theorem fk_X1_11 : sg_fk RX1 11 4 0 true (.array (.object "Signkinds$State")) := ⟨by decide +kernel, (RX1, TX1, 2), tyX1, "Signkinds$Past", rfl, by decide +kernel, sgo_4, rfl, rfl, fun _ => rfl, ⟨(tm_1 (List.mem_of_getElem? (i := 78) rfl)), rfl⟩, Or.inl rfl⟩
set_option maxRecDepth 100000 in
theorem fk_X1_18 : sg_fk RX1 18 4 1 false .int := ⟨by decide +kernel, (RX1, TX1, 2), tyX1, "Signkinds$Past", rfl, by decide +kernel, sgo_4, rfl, rfl, fun h => (nomatch h), ⟨(tm_1 (List.mem_of_getElem? (i := 79) rfl)), rfl⟩, Or.inl rfl⟩
set_option maxRecDepth 100000 in
theorem fk_X5_10 : sg_fk RX5 10 6 0 true (.object "Signkinds$State") := ⟨by decide +kernel, (RX5, TX5, 4), tyX5, "Signkinds", rfl, by decide +kernel, sgo_6, rfl, rfl, fun _ => rfl, ⟨(tm_1 (List.mem_of_getElem? (i := 87) rfl)), rfl⟩, Or.inl rfl⟩
set_option maxRecDepth 100000 in
theorem fk_X5_19 : sg_fk RX5 19 6 1 true (.object "Signkinds$Past") := ⟨by decide +kernel, (RX5, TX5, 4), tyX5, "Signkinds", rfl, by decide +kernel, sgo_6, rfl, rfl, fun _ => rfl, ⟨(tm_1 (List.mem_of_getElem? (i := 88) rfl)), rfl⟩, Or.inl rfl⟩
set_option maxRecDepth 100000 in
theorem fk_X5_28 : sg_fk RX5 28 6 2 true (.object "Signkinds$Line") := ⟨by decide +kernel, (RX5, TX5, 4), tyX5, "Signkinds", rfl, by decide +kernel, sgo_6, rfl, rfl, fun _ => rfl, ⟨(tm_1 (List.mem_of_getElem? (i := 89) rfl)), rfl⟩, Or.inl rfl⟩
set_option maxRecDepth 100000 in
theorem fk_X5_32 : sg_fk RX5 32 6 3 false .int := ⟨by decide +kernel, (RX5, TX5, 4), tyX5, "Signkinds", rfl, by decide +kernel, sgo_6, rfl, rfl, fun h => (nomatch h), ⟨(tm_1 (List.mem_of_getElem? (i := 90) rfl)), rfl⟩, Or.inl rfl⟩
set_option maxRecDepth 100000 in
theorem fk_X7_41 : sg_fk RX7 41 8 0 false .int := ⟨by decide +kernel, (RX7, TX7, 4), tyX7, "SignkindsModel", rfl, by decide +kernel, sgo_8, rfl, rfl, fun h => (nomatch h), ⟨(tm_6 (List.mem_of_getElem? (i := 16) rfl)), rfl⟩, Or.inl rfl⟩
set_option maxRecDepth 100000 in
theorem fk_X7_9 : sg_fk RX7 9 8 1 false (.array (.array .int)) := ⟨by decide +kernel, (RX7, TX7, 4), tyX7, "SignkindsModel", rfl, by decide +kernel, sgo_8, rfl, rfl, fun h => (nomatch h), ⟨(tm_6 (List.mem_of_getElem? (i := 17) rfl)), rfl⟩, Or.inl rfl⟩
set_option maxRecDepth 100000 in
theorem fk_X7_18 : sg_fk RX7 18 8 2 true (.object "java/util/ArrayList") := ⟨by decide +kernel, (RX7, TX7, 4), tyX7, "SignkindsModel", rfl, by decide +kernel, sgo_8, rfl, rfl, fun _ => rfl, ⟨(tm_6 (List.mem_of_getElem? (i := 18) rfl)), rfl⟩, Or.inl rfl⟩
set_option maxRecDepth 100000 in
theorem fk_X7_161 : sg_fk RX7 161 8 3 false .int := ⟨by decide +kernel, (RX7, TX7, 4), tyX7, "SignkindsModel", rfl, by decide +kernel, sgo_8, rfl, rfl, fun h => (nomatch h), ⟨(tm_6 (List.mem_of_getElem? (i := 19) rfl)), rfl⟩, Or.inl rfl⟩
set_option maxRecDepth 100000 in
theorem fk_X5_312 : sg_fkN RX5 312 5 0 true (.array (.object "Signkinds$Line")) := ⟨by decide +kernel, (RX3, TX3, 2), tyX3, "Signkinds", rfl, by decide +kernel, sgo_5, rfl, rfl, (tm_1 (List.mem_of_getElem? (i := 61) rfl))⟩
set_option maxRecDepth 100000 in
theorem fk_X5_318 : sg_fkN RX5 318 5 1 true (.array (.object "Signkinds$Line")) := ⟨by decide +kernel, (RX3, TX3, 2), tyX3, "Signkinds", rfl, by decide +kernel, sgo_5, rfl, rfl, (tm_1 (List.mem_of_getElem? (i := 63) rfl))⟩
set_option maxRecDepth 100000 in
theorem fk_L_13 : sg_fkN RL 13 7 0 false .long := ⟨by decide +kernel, (RX6, TX6, 2), tyX6, "SignkindsLaw", rfl, by decide +kernel, sgo_7, rfl, rfl, (tm_2 (List.mem_of_getElem? (i := 205) rfl))⟩
set_option maxRecDepth 100000 in
theorem fk_L_129 : sg_fkN RL 129 7 1 false (.object "java/lang/String") := ⟨by decide +kernel, (RX6, TX6, 2), tyX6, "SignkindsLaw", rfl, by decide +kernel, sgo_7, rfl, rfl, (tm_2 (List.mem_of_getElem? (i := 206) rfl))⟩
theorem nv_L_8 : ∀ (j : Nat) (v : sg_V), ([sg_n, sg_n, sg_n, sg_i 0] : List sg_V)[j]? = some v → sg_v v (defaultValue (tyX5 j)) := fun j v hv => by
  have hj : j < 4 := (List.getElem?_eq_some_iff.mp hv).1
  rcases (show j = 0 ∨ j = 1 ∨ j = 2 ∨ j = 3 by omega) with rfl | rfl | rfl | rfl
  · cases Option.some.inj hv; exact rfl
  · cases Option.some.inj hv; exact rfl
  · cases Option.some.inj hv; exact rfl
  · cases Option.some.inj hv; exact ⟨0, rfl, rfl⟩
set_option maxRecDepth 100000 in
theorem nk_L_8 : sg_nk RL 8 6 [sg_n, sg_n, sg_n, sg_i 0] 4 := ⟨by decide +kernel, (RX5, TX5, 4), tyX5, rfl, sgo_6, rfl, rfl, nv_L_8, ⟨(tm_1 (List.mem_of_getElem? (i := 31) rfl)), rfl⟩, ⟨(tm_1 (List.mem_of_getElem? (i := 32) rfl)), rfl⟩, ⟨(tm_1 (List.mem_of_getElem? (i := 1) rfl)), rfl⟩⟩
theorem nv_X5_7 : ∀ (j : Nat) (v : sg_V), ([sg_n, sg_n] : List sg_V)[j]? = some v → sg_v v (defaultValue (tyX3 j)) := fun j v hv => by
  have hj : j < 2 := (List.getElem?_eq_some_iff.mp hv).1
  rcases (show j = 0 ∨ j = 1 by omega) with rfl | rfl
  · cases Option.some.inj hv; exact rfl
  · cases Option.some.inj hv; exact rfl
set_option maxRecDepth 100000 in
theorem nk_X5_7 : sg_nk RX5 7 5 [sg_n, sg_n] 2 := ⟨by decide +kernel, (RX3, TX3, 2), tyX3, rfl, sgo_5, rfl, rfl, nv_X5_7, ⟨(tm_1 (List.mem_of_getElem? (i := 39) rfl)), rfl⟩, ⟨(tm_1 (List.mem_of_getElem? (i := 40) rfl)), rfl⟩, ⟨(tm_1 (List.mem_of_getElem? (i := 2) rfl)), rfl⟩⟩
theorem nv_X3_9 : ∀ (j : Nat) (v : sg_V), ([sg_n, sg_i 0] : List sg_V)[j]? = some v → sg_v v (defaultValue (tyX0 j)) := fun j v hv => by
  have hj : j < 2 := (List.getElem?_eq_some_iff.mp hv).1
  rcases (show j = 0 ∨ j = 1 by omega) with rfl | rfl
  · cases Option.some.inj hv; exact rfl
  · cases Option.some.inj hv; exact ⟨0, rfl, rfl⟩
set_option maxRecDepth 100000 in
theorem nk_X3_9 : sg_nk RX3 9 3 [sg_n, sg_i 0] 2 := ⟨by decide +kernel, (RX0, TX0, 2), tyX0, rfl, sgo_3, rfl, rfl, nv_X3_9, ⟨(tm_1 (List.mem_of_getElem? (i := 45) rfl)), rfl⟩, ⟨(tm_1 (List.mem_of_getElem? (i := 47) rfl)), rfl⟩, ⟨(tm_1 (List.mem_of_getElem? (i := 3) rfl)), rfl⟩⟩
theorem nv_X5_16 : ∀ (j : Nat) (v : sg_V), ([sg_n, sg_i 0] : List sg_V)[j]? = some v → sg_v v (defaultValue (tyX1 j)) := fun j v hv => by
  have hj : j < 2 := (List.getElem?_eq_some_iff.mp hv).1
  rcases (show j = 0 ∨ j = 1 by omega) with rfl | rfl
  · cases Option.some.inj hv; exact rfl
  · cases Option.some.inj hv; exact ⟨0, rfl, rfl⟩
set_option maxRecDepth 100000 in
theorem nk_X5_16 : sg_nk RX5 16 4 [sg_n, sg_i 0] 2 := ⟨by decide +kernel, (RX1, TX1, 2), tyX1, rfl, sgo_4, rfl, rfl, nv_X5_16, ⟨(tm_1 (List.mem_of_getElem? (i := 69) rfl)), rfl⟩, ⟨(tm_1 (List.mem_of_getElem? (i := 70) rfl)), rfl⟩, ⟨(tm_1 (List.mem_of_getElem? (i := 4) rfl)), rfl⟩⟩
theorem nv_X1_9 : ∀ (j : Nat) (v : sg_V), ([sg_n, sg_n] : List sg_V)[j]? = some v → sg_v v (defaultValue (tyX3 j)) := fun j v hv => by
  have hj : j < 2 := (List.getElem?_eq_some_iff.mp hv).1
  rcases (show j = 0 ∨ j = 1 by omega) with rfl | rfl
  · cases Option.some.inj hv; exact rfl
  · cases Option.some.inj hv; exact rfl
set_option maxRecDepth 100000 in
theorem nk_X1_9 : sg_nk RX1 9 5 [sg_n, sg_n] 2 := ⟨by decide +kernel, (RX3, TX3, 2), tyX3, rfl, sgo_5, rfl, rfl, nv_X1_9, ⟨(tm_1 (List.mem_of_getElem? (i := 75) rfl)), rfl⟩, ⟨(tm_1 (List.mem_of_getElem? (i := 40) rfl)), rfl⟩, ⟨(tm_1 (List.mem_of_getElem? (i := 2) rfl)), rfl⟩⟩
theorem nv_X5_23 : ∀ (j : Nat) (v : sg_V), ([sg_n, sg_i 0] : List sg_V)[j]? = some v → sg_v v (defaultValue (tyX0 j)) := fun j v hv => by
  have hj : j < 2 := (List.getElem?_eq_some_iff.mp hv).1
  rcases (show j = 0 ∨ j = 1 by omega) with rfl | rfl
  · cases Option.some.inj hv; exact rfl
  · cases Option.some.inj hv; exact ⟨0, rfl, rfl⟩
set_option maxRecDepth 100000 in
theorem nk_X5_23 : sg_nk RX5 23 3 [sg_n, sg_i 0] 2 := ⟨by decide +kernel, (RX0, TX0, 2), tyX0, rfl, sgo_3, rfl, rfl, nv_X5_23, ⟨(tm_1 (List.mem_of_getElem? (i := 85) rfl)), rfl⟩, ⟨(tm_1 (List.mem_of_getElem? (i := 47) rfl)), rfl⟩, ⟨(tm_1 (List.mem_of_getElem? (i := 3) rfl)), rfl⟩⟩
theorem nv_L_14 : ∀ (j : Nat) (v : sg_V), ([sg_l 0, sg_n] : List sg_V)[j]? = some v → sg_v v (defaultValue (tyX6 j)) := fun j v hv => by
  have hj : j < 2 := (List.getElem?_eq_some_iff.mp hv).1
  rcases (show j = 0 ∨ j = 1 by omega) with rfl | rfl
  · cases Option.some.inj hv; exact ⟨0, rfl, rfl⟩
  · cases Option.some.inj hv; exact rfl
set_option maxRecDepth 100000 in
theorem nk_L_14 : sg_nk RL 14 7 [sg_l 0, sg_n] 2 := ⟨by decide +kernel, (RX6, TX6, 2), tyX6, rfl, sgo_7, rfl, rfl, nv_L_14, ⟨(tm_2 (List.mem_of_getElem? (i := 199) rfl)), rfl⟩, ⟨(tm_2 (List.mem_of_getElem? (i := 200) rfl)), rfl⟩, ⟨(tm_1 (List.mem_of_getElem? (i := 9) rfl)), rfl⟩⟩
theorem nv_X5_203 : ∀ (j : Nat) (v : sg_V), ([sg_n, sg_i 0, sg_i 0, sg_i 0] : List sg_V)[j]? = some v → sg_v v (defaultValue (tyJ4 j)) := fun j v hv => by
  have hj : j < 4 := (List.getElem?_eq_some_iff.mp hv).1
  rcases (show j = 0 ∨ j = 1 ∨ j = 2 ∨ j = 3 by omega) with rfl | rfl | rfl | rfl
  · cases Option.some.inj hv; exact rfl
  · cases Option.some.inj hv; exact ⟨0, rfl, rfl⟩
  · cases Option.some.inj hv; exact ⟨0, rfl, rfl⟩
  · cases Option.some.inj hv; exact ⟨0, rfl, rfl⟩
set_option maxRecDepth 100000 in
theorem nk_X5_203 : sg_nk RX5 203 1 [sg_n, sg_i 0, sg_i 0, sg_i 0] 4 := ⟨by decide +kernel, (RJ4, TJ4, 4), tyJ4, rfl, sgo_1, rfl, rfl, nv_X5_203, ⟨(tm_4 (List.mem_of_getElem? (i := 85) rfl)), rfl⟩, ⟨(tm_4 (List.mem_of_getElem? (i := 86) rfl)), rfl⟩, ⟨(tm_1 (List.mem_of_getElem? (i := 25) rfl)), rfl⟩⟩
theorem nv_L_186 : ∀ (j : Nat) (v : sg_V), ([sg_i 0, sg_n, sg_n, sg_i 0] : List sg_V)[j]? = some v → sg_v v (defaultValue (tyX7 j)) := fun j v hv => by
  have hj : j < 4 := (List.getElem?_eq_some_iff.mp hv).1
  rcases (show j = 0 ∨ j = 1 ∨ j = 2 ∨ j = 3 by omega) with rfl | rfl | rfl | rfl
  · cases Option.some.inj hv; exact ⟨0, rfl, rfl⟩
  · cases Option.some.inj hv; exact rfl
  · cases Option.some.inj hv; exact rfl
  · cases Option.some.inj hv; exact ⟨0, rfl, rfl⟩
set_option maxRecDepth 100000 in
theorem nk_L_186 : sg_nk RL 186 8 [sg_i 0, sg_n, sg_n, sg_i 0] 4 := ⟨by decide +kernel, (RX7, TX7, 4), tyX7, rfl, sgo_8, rfl, rfl, nv_L_186, ⟨(tm_5 (List.mem_of_getElem? (i := 222) rfl)), rfl⟩, ⟨(tm_5 (List.mem_of_getElem? (i := 223) rfl)), rfl⟩, ⟨(tm_1 (List.mem_of_getElem? (i := 5) rfl)), rfl⟩⟩
theorem nv_X7_15 : ∀ (j : Nat) (v : sg_V), ([sg_i 0, sg_n, sg_i 0] : List sg_V)[j]? = some v → sg_v v (defaultValue (tyJx4a65c j)) := fun j v hv => by
  have hj : j < 3 := (List.getElem?_eq_some_iff.mp hv).1
  rcases (show j = 0 ∨ j = 1 ∨ j = 2 by omega) with rfl | rfl | rfl
  · cases Option.some.inj hv; exact ⟨0, rfl, rfl⟩
  · cases Option.some.inj hv; exact rfl
  · cases Option.some.inj hv; exact ⟨0, rfl, rfl⟩
set_option maxRecDepth 100000 in
theorem nk_X7_15 : sg_nk RX7 15 2 [sg_i 0, sg_n, sg_i 0] 3 := ⟨by decide +kernel, (RJx4a65c, TJx4a65c, 3), tyJx4a65c, rfl, sgo_2, rfl, rfl, nv_X7_15, ⟨(tm_5 (List.mem_of_getElem? (i := 230) rfl)), rfl⟩, ⟨(tm_5 (List.mem_of_getElem? (i := 231) rfl)), rfl⟩, ⟨(tm_1 (List.mem_of_getElem? (i := 8) rfl)), rfl⟩⟩
theorem nv_X7_175 : ∀ (j : Nat) (v : sg_V), ([sg_n, sg_i 0, sg_i 0, sg_i 0] : List sg_V)[j]? = some v → sg_v v (defaultValue (tyJ4 j)) := fun j v hv => by
  have hj : j < 4 := (List.getElem?_eq_some_iff.mp hv).1
  rcases (show j = 0 ∨ j = 1 ∨ j = 2 ∨ j = 3 by omega) with rfl | rfl | rfl | rfl
  · cases Option.some.inj hv; exact rfl
  · cases Option.some.inj hv; exact ⟨0, rfl, rfl⟩
  · cases Option.some.inj hv; exact ⟨0, rfl, rfl⟩
  · cases Option.some.inj hv; exact ⟨0, rfl, rfl⟩
set_option maxRecDepth 100000 in
theorem nk_X7_175 : sg_nk RX7 175 1 [sg_n, sg_i 0, sg_i 0, sg_i 0] 4 := ⟨by decide +kernel, (RJ4, TJ4, 4), tyJ4, rfl, sgo_1, rfl, rfl, nv_X7_175, ⟨(tm_7 (List.mem_of_getElem? (i := 122) rfl)), rfl⟩, ⟨(tm_4 (List.mem_of_getElem? (i := 86) rfl)), rfl⟩, ⟨(tm_1 (List.mem_of_getElem? (i := 25) rfl)), rfl⟩⟩
set_option maxRecDepth 100000 in
theorem ac_int : sg_ok (.arrayClass (newarray.typeOf .int)) := ⟨(tm_1 (List.mem_of_getElem? (i := 59) rfl)), rfl⟩
set_option maxRecDepth 100000 in
theorem ac_boolean : sg_ok (.arrayClass (newarray.typeOf .boolean)) := ⟨(tm_6 (List.mem_of_getElem? (i := 125) rfl)), rfl⟩
set_option maxRecDepth 100000 in
theorem ac_byte : sg_ok (.arrayClass (newarray.typeOf .byte)) := ⟨(tm_1 (List.mem_of_getElem? (i := 222) rfl)), rfl⟩
theorem tw_X5_48 : ∀ x ∈ Cond.classLink RX5 48 "java/lang/IllegalStateException" :: Cond.initialized "java/lang/IllegalStateException" :: vx_atS RX5 52 "java/lang/IllegalStateException" ["java/lang/RuntimeException", "java/lang/Exception"], x ∈ lw_tbl ∧ sg_gw x = true ∧ vx_ot x = true := by decide +kernel
set_option maxRecDepth 100000 in
theorem th_X5_48_50 : sg_th RX5 48 50 52 "java/lang/IllegalStateException" "the row would have more than 40 signs" ["java/lang/RuntimeException", "java/lang/Exception"] := ⟨by decide +kernel, by decide +kernel, by decide +kernel, tw_X5_48, (tm_3 (List.mem_of_getElem? (i := 5) rfl))⟩
theorem tw_X5_110 : ∀ x ∈ Cond.classLink RX5 110 "java/lang/IllegalArgumentException" :: Cond.initialized "java/lang/IllegalArgumentException" :: vx_atS RX5 114 "java/lang/IllegalArgumentException" ["java/lang/RuntimeException", "java/lang/Exception"], x ∈ lw_tbl ∧ sg_gw x = true ∧ vx_ot x = true := by decide +kernel
set_option maxRecDepth 100000 in
theorem th_X5_110_112 : sg_th RX5 110 112 114 "java/lang/IllegalArgumentException" "the number is not 0 to 999999" ["java/lang/RuntimeException", "java/lang/Exception"] := ⟨by decide +kernel, by decide +kernel, by decide +kernel, tw_X5_110, (tm_3 (List.mem_of_getElem? (i := 113) rfl))⟩
set_option maxRecDepth 100000 in
theorem th_X5_110_159 : sg_th RX5 110 159 114 "java/lang/IllegalArgumentException" "no such code" ["java/lang/RuntimeException", "java/lang/Exception"] := ⟨by decide +kernel, by decide +kernel, by decide +kernel, tw_X5_110, (tm_3 (List.mem_of_getElem? (i := 161) rfl))⟩
set_option maxRecDepth 100000 in
theorem th_X5_48_184 : sg_th RX5 48 184 52 "java/lang/IllegalStateException" "no step can be undone" ["java/lang/RuntimeException", "java/lang/Exception"] := ⟨by decide +kernel, by decide +kernel, by decide +kernel, tw_X5_48, (tm_3 (List.mem_of_getElem? (i := 205) rfl))⟩
set_option maxRecDepth 100000 in
theorem th_X5_110_201 : sg_th RX5 110 201 114 "java/lang/IllegalArgumentException" "the place is below 0" ["java/lang/RuntimeException", "java/lang/Exception"] := ⟨by decide +kernel, by decide +kernel, by decide +kernel, tw_X5_110, (tm_4 (List.mem_of_getElem? (i := 70) rfl))⟩
theorem tw_X5_226 : ∀ x ∈ Cond.classLink RX5 226 "java/lang/IndexOutOfBoundsException" :: Cond.initialized "java/lang/IndexOutOfBoundsException" :: vx_atS RX5 230 "java/lang/IndexOutOfBoundsException" ["java/lang/RuntimeException", "java/lang/Exception"], x ∈ lw_tbl ∧ sg_gw x = true ∧ vx_ot x = true := by decide +kernel
set_option maxRecDepth 100000 in
theorem th_X5_226_228 : sg_th RX5 226 228 230 "java/lang/IndexOutOfBoundsException" "no such word" ["java/lang/RuntimeException", "java/lang/Exception"] := ⟨by decide +kernel, by decide +kernel, by decide +kernel, tw_X5_226, (tm_5 (List.mem_of_getElem? (i := 148) rfl))⟩
set_option maxRecDepth 100000 in
theorem th_X5_110_240 : sg_th RX5 110 240 114 "java/lang/IllegalArgumentException" "no wide code" ["java/lang/RuntimeException", "java/lang/Exception"] := ⟨by decide +kernel, by decide +kernel, by decide +kernel, tw_X5_110, (tm_5 (List.mem_of_getElem? (i := 164) rfl))⟩
set_option maxRecDepth 100000 in
theorem th_X5_110_254 : sg_th RX5 110 254 114 "java/lang/IllegalArgumentException" "no high half and low half" ["java/lang/RuntimeException", "java/lang/Exception"] := ⟨by decide +kernel, by decide +kernel, by decide +kernel, tw_X5_110, (tm_5 (List.mem_of_getElem? (i := 174) rfl))⟩
set_option maxRecDepth 100000 in
theorem th_X5_110_259 : sg_th RX5 110 259 114 "java/lang/IllegalArgumentException" "what is not 0 to 3" ["java/lang/RuntimeException", "java/lang/Exception"] := ⟨by decide +kernel, by decide +kernel, by decide +kernel, tw_X5_110, (tm_2 (List.mem_of_getElem? (i := 179) rfl))⟩
set_option maxRecDepth 100000 in
theorem th_X5_226_264 : sg_th RX5 226 264 230 "java/lang/IndexOutOfBoundsException" "no such place" ["java/lang/RuntimeException", "java/lang/Exception"] := ⟨by decide +kernel, by decide +kernel, by decide +kernel, tw_X5_226, (tm_4 (List.mem_of_getElem? (i := 58) rfl))⟩
set_option maxRecDepth 100000 in
theorem th_X5_226_159 : sg_th RX5 226 159 230 "java/lang/IndexOutOfBoundsException" "no such code" ["java/lang/RuntimeException", "java/lang/Exception"] := ⟨by decide +kernel, by decide +kernel, by decide +kernel, tw_X5_226, (tm_3 (List.mem_of_getElem? (i := 161) rfl))⟩
set_option maxRecDepth 100000 in
theorem th_X5_226_310 : sg_th RX5 226 310 230 "java/lang/IndexOutOfBoundsException" "no such row" ["java/lang/RuntimeException", "java/lang/Exception"] := ⟨by decide +kernel, by decide +kernel, by decide +kernel, tw_X5_226, (tm_1 (List.mem_of_getElem? (i := 196) rfl))⟩
set_option maxRecDepth 100000 in
theorem th_X5_226_316 : sg_th RX5 226 316 230 "java/lang/IndexOutOfBoundsException" "no such track" ["java/lang/RuntimeException", "java/lang/Exception"] := ⟨by decide +kernel, by decide +kernel, by decide +kernel, tw_X5_226, (tm_2 (List.mem_of_getElem? (i := 36) rfl))⟩
set_option maxRecDepth 100000 in
theorem th_X5_110_321 : sg_th RX5 110 321 114 "java/lang/IllegalArgumentException" "no such sign" ["java/lang/RuntimeException", "java/lang/Exception"] := ⟨by decide +kernel, by decide +kernel, by decide +kernel, tw_X5_110, (tm_2 (List.mem_of_getElem? (i := 231) rfl))⟩
set_option maxRecDepth 100000 in
theorem th_X5_110_323 : sg_th RX5 110 323 114 "java/lang/IllegalArgumentException" "the kind is not 0 to 4" ["java/lang/RuntimeException", "java/lang/Exception"] := ⟨by decide +kernel, by decide +kernel, by decide +kernel, tw_X5_110, (tm_2 (List.mem_of_getElem? (i := 112) rfl))⟩
set_option maxRecDepth 100000 in
theorem th_X5_110_328 : sg_th RX5 110 328 114 "java/lang/IllegalArgumentException" "the radix is not 2 to 36" ["java/lang/RuntimeException", "java/lang/Exception"] := ⟨by decide +kernel, by decide +kernel, by decide +kernel, tw_X5_110, (tm_2 (List.mem_of_getElem? (i := 128) rfl))⟩
set_option maxRecDepth 100000 in
theorem th_X5_110_330 : sg_th RX5 110 330 114 "java/lang/IllegalArgumentException" "no such unit" ["java/lang/RuntimeException", "java/lang/Exception"] := ⟨by decide +kernel, by decide +kernel, by decide +kernel, tw_X5_110, (tm_2 (List.mem_of_getElem? (i := 172) rfl))⟩
set_option maxRecDepth 100000 in
theorem th_X5_110_332 : sg_th RX5 110 332 114 "java/lang/IllegalArgumentException" "both rows are the same" ["java/lang/RuntimeException", "java/lang/Exception"] := ⟨by decide +kernel, by decide +kernel, by decide +kernel, tw_X5_110, (tm_3 (List.mem_of_getElem? (i := 133) rfl))⟩
set_option maxRecDepth 100000 in
theorem th_X5_110_334 : sg_th RX5 110 334 114 "java/lang/IllegalArgumentException" "there are not so many" ["java/lang/RuntimeException", "java/lang/Exception"] := ⟨by decide +kernel, by decide +kernel, by decide +kernel, tw_X5_110, (tm_3 (List.mem_of_getElem? (i := 44) rfl))⟩

