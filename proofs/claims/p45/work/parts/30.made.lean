theorem mo_X5_1 : sg_ok (.methodLink RX5 1 Lib.objectInit) := sg_okt 36 (by decide +kernel)
theorem mo_X3_3 : sg_ok (.methodLink RX3 3 Lib.objectInit) := sg_okt 44 (by decide +kernel)
theorem mo_X0_3 : sg_ok (.methodLink RX0 3 Lib.objectInit) := sg_okt 51 (by decide +kernel)
theorem mo_X1_3 : sg_ok (.methodLink RX1 3 Lib.objectInit) := sg_okt 74 (by decide +kernel)
theorem mo_X6_1 : sg_ok (.methodLink RX6 1 Lib.objectInit) := sg_okt 444 (by decide +kernel)
theorem mo_J5_3 : sg_ok (.methodLink RJ5 3 Lib.objectInit) := sg_okt 813 (by decide +kernel)
theorem mo_J0_1 : sg_ok (.methodLink RJ0 1 Lib.objectInit) := sg_okt 946 (by decide +kernel)
theorem mo_X7_1 : sg_ok (.methodLink RX7 1 Lib.objectInit) := sg_okt 1187 (by decide +kernel)
theorem mo_Jxa1e45_1 : sg_ok (.methodLink RJxa1e45 1 Lib.objectInit) := sg_okt 1201 (by decide +kernel)
theorem mo_in : sg_ok (.instanceMethod Lib.objectInit) := sg_okt 37 (by decide +kernel)
theorem mo_co : sg_ok (.code Lib.objectInit ⟨#[0xb1]⟩ 1 none) := sg_okt 38 (by decide +kernel)
theorem av_110 : Cond.arrayOver (.array .int) ∈ lw_tbl := List.mem_append_right _ (List.mem_of_getElem? (i := 1189) (by decide +kernel))
theorem av_111 : Cond.arrayOver (.object "Signkinds$Line") ∈ lw_tbl := List.mem_append_right _ (List.mem_of_getElem? (i := 46) (by decide +kernel))
theorem av_112 : Cond.arrayOver (.object "Signkinds$State") ∈ lw_tbl := List.mem_append_right _ (List.mem_of_getElem? (i := 76) (by decide +kernel))
theorem av_113 : Cond.arrayOver (.object "java/lang/Object") ∈ lw_tbl := List.mem_append_right _ (List.mem_of_getElem? (i := 1300) (by decide +kernel))
/-- a Line as it is made, and a State (15 cells from b on), and the Past's 92 -/
abbrev ck_z (N : Nat) : List sg_V := List.replicate N (sg_i 0)
def ck_se (b : Nat) : List sg_E := [(5, [sg_r (b + 1), sg_r (b + 2)]), (111, [sg_r (b + 3), sg_r (b + 5), sg_r (b + 7), sg_r (b + 9)]), (111, [sg_r (b + 11), sg_r (b + 13)]), (3, [sg_r (b + 4), sg_i 0]), (100, ck_z 40), (3, [sg_r (b + 6), sg_i 0]), (100, ck_z 40), (3, [sg_r (b + 8), sg_i 0]), (100, ck_z 40), (3, [sg_r (b + 10), sg_i 0]), (100, ck_z 40), (3, [sg_r (b + 12), sg_i 0]), (100, ck_z 24), (3, [sg_r (b + 14), sg_i 0]), (100, ck_z 24)]
set_option maxRecDepth 100000 in
theorem s_X0_init {w : sg_W} {Q : sg_O → sg_H → Prop} {h : sg_H} (g : sg_G w) {d : Nat} (hd : 2 ≤ d) {b N : Nat} {z : Int} (hz : z = (N : Int)) (hN : N ≤ 1000) (hb : h.2 b = some (3, [sg_n, sg_i 0])) (hb1 : h.1 = b + 1) (hQ : Q (.inl none) (h.1 + 1, sg_up (sg_up (sg_up h.2 h.1 (100, ck_z N)) b (3, [sg_r h.1, sg_i 0])) b (3, [sg_r h.1, sg_i 0]))) : sg_C w mi_X0_init d 1 N [sg_r b, sg_i z] h Q := by
  refine sg_of (by decide +kernel) (Nat.le_of_ble_eq_true rfl) ?_
  refine sg_aload_n (pc := 0) (j := 0) dX0_init_0 rfl rfl ?_
  refine sg_objInit (pc := 1) g dX0_init_1 mo_X0_3 mo_in mo_co (Nat.le_of_ble_eq_true rfl) (by omega) ?_
  refine sg_aload_n (pc := 4) (j := 0) dX0_init_4 rfl rfl ?_
  refine sg_iload_n (pc := 5) (j := 1) dX0_init_5 rfl rfl ?_
  refine sg_if_ge (pc := 6) (tgt := 13) dX0_init_6 (by decide) (fun c6 => ?_) (fun c6 => ?_)
  · refine sg_iload_n (pc := 13) (j := 1) dX0_init_13 rfl rfl ?_
    refine sg_newa (t := 100) (N := N) (pc := 14) g dX0_init_14 ac_int rfl (by decide) (by decide) rfl rfl (by decide) hz (by omega) (by omega) (by omega) ?_
    refine sg_putF (pc := 16) g dX0_init_16 fk_X0_9 rfl (by first | assumption | (repeat (first | with_reducible exact sg_up_s | with_reducible refine (sg_up_n (by omega)).trans ?_)) <;> assumption) sg_ft_a ?_
    refine sg_aload_n (pc := 19) (j := 0) dX0_init_19 rfl rfl ?_
    refine sg_iconst (pc := 20) (z := 0) dX0_init_20 (by decide) ?_
    refine sg_putf (pc := 21) g dX0_init_21 fk_X0_15 (by first | assumption | (repeat (first | with_reducible exact sg_up_s | with_reducible refine (sg_up_n (by omega)).trans ?_)) <;> assumption) sg_ft_i ?_
    refine sg_vret (pc := 24) dX0_init_24 rfl (by omega) (by omega) ?_
    exact hQ
  · exfalso; omega

set_option maxRecDepth 100000 in
set_option maxHeartbeats 400000 in
theorem s_X3_init {w : sg_W} {Q : sg_O → sg_H → Prop} {f : Nat → Option sg_E} (g : sg_G w) {d : Nat} (hd : 3 ≤ d) {b : Nat} (hb : f b = some (5, [sg_n, sg_n])) (hQ : ∀ f' : Nat → Option sg_E, (∀ i, i < 15 → f' (b + i) = (ck_se b)[i]?) → (∀ q, (q < b ∨ b + 15 ≤ q) → f' q = f q) → Q (.inl none) (b + 15, f')) : sg_C w mi_X3_init d 14 226 [sg_r b] (b + 1, f) Q := by
  refine sg_of (by decide +kernel) (Nat.le_of_ble_eq_true rfl) ?_
  refine sg_aload_n (pc := 0) (j := 0) dX3_init_0 rfl rfl ?_
  refine sg_objInit (pc := 1) g dX3_init_1 mo_X3_3 mo_in mo_co (Nat.le_of_ble_eq_true rfl) (by omega) ?_
  refine sg_aload_n (pc := 4) (j := 0) dX3_init_4 rfl rfl ?_
  refine sg_iconst (pc := 5) (z := 4) dX3_init_5 (by decide) ?_
  refine sg_anew (t := 111) (N := 4) (pc := 6) g dX3_init_6 cl_X3_9 av_111 rfl (by decide) (by decide) (by omega) (by omega) (by omega) (by omega) ?_
  dsimp only
  refine sg_putF (pc := 9) g dX3_init_9 fk_X3_11 rfl (by first | assumption | (repeat (first | with_reducible exact sg_up_s | with_reducible refine (sg_up_n (by omega)).trans ?_)) <;> assumption) sg_ft_a ?_
  dsimp only
  refine sg_aload_n (pc := 12) (j := 0) dX3_init_12 rfl rfl ?_
  refine sg_iconst (pc := 13) (z := 2) dX3_init_13 (by decide) ?_
  refine sg_anew (t := 111) (N := 2) (pc := 14) g dX3_init_14 cl_X3_9 av_111 rfl (by decide) (by decide) (by omega) (by omega) (by omega) (by omega) ?_
  dsimp only
  refine sg_putF (pc := 17) g dX3_init_17 fk_X3_17 rfl (by first | assumption | (repeat (first | with_reducible exact sg_up_s | with_reducible refine (sg_up_n (by omega)).trans ?_)) <;> assumption) sg_ft_a ?_
  dsimp only
  refine sg_iconst (pc := 20) (z := 0) dX3_init_20 (by decide) ?_
  refine sg_istore_n (pc := 21) (j := 1) dX3_init_21 rfl (by decide) ?_
  refine sg_iload_n (pc := 22) (j := 1) dX3_init_22 rfl rfl ?_
  refine sg_iconst (pc := 23) (z := 4) dX3_init_23 (by decide) ?_
  refine sg_icmp_ge (pc := 24) (tgt := 48) dX3_init_24 (by decide) (fun cu => absurd cu (by omega)) (fun cu => ?_)
  refine sg_aload_n (pc := 27) (j := 0) dX3_init_27 rfl rfl ?_
  refine sg_getf (pc := 28) g dX3_init_28 fk_X3_11 (by first | assumption | (repeat (first | with_reducible exact sg_up_s | with_reducible refine (sg_up_n (by omega)).trans ?_)) <;> assumption) (by rfl) (by rfl) ?_
  refine sg_iload_n (pc := 31) (j := 1) dX3_init_31 rfl rfl ?_
  refine sg_new (pc := 32) g dX3_init_32 nk_X3_9 (by omega) (by omega) ?_
  dsimp only
  refine sg_dup (pc := 35) dX3_init_35 rfl ?_
  refine sg_bipush (pc := 36) (z := 40) dX3_init_36 (by decide) ?_
  refine sg_cI1 (pc := 38) (d' := d - 1) (mc' := 1) (ms' := 40) g dX3_init_38 cb_X0_init rfl rfl ml_X3_20 mn_X0_init (Nat.le_of_ble_eq_true rfl) (by omega) (by omega) (by omega) ?_
  refine s_X0_init (N := 40) g (by omega) rfl (by decide) (by with_reducible exact sg_up_s) rfl ?_
  refine sg_K0 ?_
  dsimp only
  refine sg_aast (pc := 41) g dX3_init_41 (by first | assumption | (repeat (first | with_reducible exact sg_up_s | with_reducible refine (sg_up_n (by omega)).trans ?_)) <;> assumption) (by first | assumption | (repeat (first | with_reducible exact sg_up_s | with_reducible refine (sg_up_n (by omega)).trans ?_)) <;> assumption) (by decide) (by decide) (Or.inl ⟨by decide, _, rfl, Or.inl rfl⟩) (by omega) (Nat.le_of_ble_eq_true rfl) ?_
  dsimp only
  first | refine sg_iincB (pc := 42) dX3_init_42 rfl (by decide) (by decide) (by omega) (by omega) ?_ | refine sg_iinc (pc := 42) dX3_init_42 rfl (by decide) (by decide) ?_
  refine sg_goto (pc := 45) (tgt := 22) dX3_init_45 (by decide) ?_
  refine sg_iload_n (pc := 22) (j := 1) dX3_init_22 rfl rfl ?_
  refine sg_iconst (pc := 23) (z := 4) dX3_init_23 (by decide) ?_
  refine sg_icmp_ge (pc := 24) (tgt := 48) dX3_init_24 (by decide) (fun cu => absurd cu (by omega)) (fun cu => ?_)
  refine sg_aload_n (pc := 27) (j := 0) dX3_init_27 rfl rfl ?_
  refine sg_getf (pc := 28) g dX3_init_28 fk_X3_11 (by first | assumption | (repeat (first | with_reducible exact sg_up_s | with_reducible refine (sg_up_n (by omega)).trans ?_)) <;> assumption) (by rfl) (by rfl) ?_
  refine sg_iload_n (pc := 31) (j := 1) dX3_init_31 rfl rfl ?_
  refine sg_new (pc := 32) g dX3_init_32 nk_X3_9 (by omega) (by omega) ?_
  dsimp only
  refine sg_dup (pc := 35) dX3_init_35 rfl ?_
  refine sg_bipush (pc := 36) (z := 40) dX3_init_36 (by decide) ?_
  refine sg_cI1 (pc := 38) (d' := d - 1) (mc' := 1) (ms' := 40) g dX3_init_38 cb_X0_init rfl rfl ml_X3_20 mn_X0_init (Nat.le_of_ble_eq_true rfl) (by omega) (by omega) (by omega) ?_
  refine s_X0_init (N := 40) g (by omega) rfl (by decide) (by with_reducible exact sg_up_s) rfl ?_
  refine sg_K0 ?_
  dsimp only
  refine sg_aast (pc := 41) g dX3_init_41 (by first | assumption | (repeat (first | with_reducible exact sg_up_s | with_reducible refine (sg_up_n (by omega)).trans ?_)) <;> assumption) (by first | assumption | (repeat (first | with_reducible exact sg_up_s | with_reducible refine (sg_up_n (by omega)).trans ?_)) <;> assumption) (by decide) (by decide) (Or.inl ⟨by decide, _, rfl, Or.inl rfl⟩) (by omega) (Nat.le_of_ble_eq_true rfl) ?_
  dsimp only
  first | refine sg_iincB (pc := 42) dX3_init_42 rfl (by decide) (by decide) (by omega) (by omega) ?_ | refine sg_iinc (pc := 42) dX3_init_42 rfl (by decide) (by decide) ?_
  refine sg_goto (pc := 45) (tgt := 22) dX3_init_45 (by decide) ?_
  refine sg_iload_n (pc := 22) (j := 1) dX3_init_22 rfl rfl ?_
  refine sg_iconst (pc := 23) (z := 4) dX3_init_23 (by decide) ?_
  refine sg_icmp_ge (pc := 24) (tgt := 48) dX3_init_24 (by decide) (fun cu => absurd cu (by omega)) (fun cu => ?_)
  refine sg_aload_n (pc := 27) (j := 0) dX3_init_27 rfl rfl ?_
  refine sg_getf (pc := 28) g dX3_init_28 fk_X3_11 (by first | assumption | (repeat (first | with_reducible exact sg_up_s | with_reducible refine (sg_up_n (by omega)).trans ?_)) <;> assumption) (by rfl) (by rfl) ?_
  refine sg_iload_n (pc := 31) (j := 1) dX3_init_31 rfl rfl ?_
  refine sg_new (pc := 32) g dX3_init_32 nk_X3_9 (by omega) (by omega) ?_
  dsimp only
  refine sg_dup (pc := 35) dX3_init_35 rfl ?_
  refine sg_bipush (pc := 36) (z := 40) dX3_init_36 (by decide) ?_
  refine sg_cI1 (pc := 38) (d' := d - 1) (mc' := 1) (ms' := 40) g dX3_init_38 cb_X0_init rfl rfl ml_X3_20 mn_X0_init (Nat.le_of_ble_eq_true rfl) (by omega) (by omega) (by omega) ?_
  refine s_X0_init (N := 40) g (by omega) rfl (by decide) (by with_reducible exact sg_up_s) rfl ?_
  refine sg_K0 ?_
  dsimp only
  refine sg_aast (pc := 41) g dX3_init_41 (by first | assumption | (repeat (first | with_reducible exact sg_up_s | with_reducible refine (sg_up_n (by omega)).trans ?_)) <;> assumption) (by first | assumption | (repeat (first | with_reducible exact sg_up_s | with_reducible refine (sg_up_n (by omega)).trans ?_)) <;> assumption) (by decide) (by decide) (Or.inl ⟨by decide, _, rfl, Or.inl rfl⟩) (by omega) (Nat.le_of_ble_eq_true rfl) ?_
  dsimp only
  first | refine sg_iincB (pc := 42) dX3_init_42 rfl (by decide) (by decide) (by omega) (by omega) ?_ | refine sg_iinc (pc := 42) dX3_init_42 rfl (by decide) (by decide) ?_
  refine sg_goto (pc := 45) (tgt := 22) dX3_init_45 (by decide) ?_
  refine sg_iload_n (pc := 22) (j := 1) dX3_init_22 rfl rfl ?_
  refine sg_iconst (pc := 23) (z := 4) dX3_init_23 (by decide) ?_
  refine sg_icmp_ge (pc := 24) (tgt := 48) dX3_init_24 (by decide) (fun cu => absurd cu (by omega)) (fun cu => ?_)
  refine sg_aload_n (pc := 27) (j := 0) dX3_init_27 rfl rfl ?_
  refine sg_getf (pc := 28) g dX3_init_28 fk_X3_11 (by first | assumption | (repeat (first | with_reducible exact sg_up_s | with_reducible refine (sg_up_n (by omega)).trans ?_)) <;> assumption) (by rfl) (by rfl) ?_
  refine sg_iload_n (pc := 31) (j := 1) dX3_init_31 rfl rfl ?_
  refine sg_new (pc := 32) g dX3_init_32 nk_X3_9 (by omega) (by omega) ?_
  dsimp only
  refine sg_dup (pc := 35) dX3_init_35 rfl ?_
  refine sg_bipush (pc := 36) (z := 40) dX3_init_36 (by decide) ?_
  refine sg_cI1 (pc := 38) (d' := d - 1) (mc' := 1) (ms' := 40) g dX3_init_38 cb_X0_init rfl rfl ml_X3_20 mn_X0_init (Nat.le_of_ble_eq_true rfl) (by omega) (by omega) (by omega) ?_
  refine s_X0_init (N := 40) g (by omega) rfl (by decide) (by with_reducible exact sg_up_s) rfl ?_
  refine sg_K0 ?_
  dsimp only
  refine sg_aast (pc := 41) g dX3_init_41 (by first | assumption | (repeat (first | with_reducible exact sg_up_s | with_reducible refine (sg_up_n (by omega)).trans ?_)) <;> assumption) (by first | assumption | (repeat (first | with_reducible exact sg_up_s | with_reducible refine (sg_up_n (by omega)).trans ?_)) <;> assumption) (by decide) (by decide) (Or.inl ⟨by decide, _, rfl, Or.inl rfl⟩) (by omega) (Nat.le_of_ble_eq_true rfl) ?_
  dsimp only
  first | refine sg_iincB (pc := 42) dX3_init_42 rfl (by decide) (by decide) (by omega) (by omega) ?_ | refine sg_iinc (pc := 42) dX3_init_42 rfl (by decide) (by decide) ?_
  refine sg_goto (pc := 45) (tgt := 22) dX3_init_45 (by decide) ?_
  refine sg_iload_n (pc := 22) (j := 1) dX3_init_22 rfl rfl ?_
  refine sg_iconst (pc := 23) (z := 4) dX3_init_23 (by decide) ?_
  refine sg_icmp_ge (pc := 24) (tgt := 48) dX3_init_24 (by decide) (fun cu => ?_) (fun cu => absurd cu (by omega))
  refine sg_iconst (pc := 48) (z := 0) dX3_init_48 (by decide) ?_
  refine sg_istore_n (pc := 49) (j := 1) dX3_init_49 rfl (by decide) ?_
  refine sg_iload_n (pc := 50) (j := 1) dX3_init_50 rfl rfl ?_
  refine sg_iconst (pc := 51) (z := 2) dX3_init_51 (by decide) ?_
  refine sg_icmp_ge (pc := 52) (tgt := 76) dX3_init_52 (by decide) (fun cu => absurd cu (by omega)) (fun cu => ?_)
  refine sg_aload_n (pc := 55) (j := 0) dX3_init_55 rfl rfl ?_
  refine sg_getf (pc := 56) g dX3_init_56 fk_X3_17 (by first | assumption | (repeat (first | with_reducible exact sg_up_s | with_reducible refine (sg_up_n (by omega)).trans ?_)) <;> assumption) (by rfl) (by rfl) ?_
  refine sg_iload_n (pc := 59) (j := 1) dX3_init_59 rfl rfl ?_
  refine sg_new (pc := 60) g dX3_init_60 nk_X3_9 (by omega) (by omega) ?_
  dsimp only
  refine sg_dup (pc := 63) dX3_init_63 rfl ?_
  refine sg_bipush (pc := 64) (z := 24) dX3_init_64 (by decide) ?_
  refine sg_cI1 (pc := 66) (d' := d - 1) (mc' := 1) (ms' := 24) g dX3_init_66 cb_X0_init rfl rfl ml_X3_20 mn_X0_init (Nat.le_of_ble_eq_true rfl) (by omega) (by omega) (by omega) ?_
  refine s_X0_init (N := 24) g (by omega) rfl (by decide) (by with_reducible exact sg_up_s) rfl ?_
  refine sg_K0 ?_
  dsimp only
  refine sg_aast (pc := 69) g dX3_init_69 (by first | assumption | (repeat (first | with_reducible exact sg_up_s | with_reducible refine (sg_up_n (by omega)).trans ?_)) <;> assumption) (by first | assumption | (repeat (first | with_reducible exact sg_up_s | with_reducible refine (sg_up_n (by omega)).trans ?_)) <;> assumption) (by decide) (by decide) (Or.inl ⟨by decide, _, rfl, Or.inl rfl⟩) (by omega) (Nat.le_of_ble_eq_true rfl) ?_
  dsimp only
  first | refine sg_iincB (pc := 70) dX3_init_70 rfl (by decide) (by decide) (by omega) (by omega) ?_ | refine sg_iinc (pc := 70) dX3_init_70 rfl (by decide) (by decide) ?_
  refine sg_goto (pc := 73) (tgt := 50) dX3_init_73 (by decide) ?_
  refine sg_iload_n (pc := 50) (j := 1) dX3_init_50 rfl rfl ?_
  refine sg_iconst (pc := 51) (z := 2) dX3_init_51 (by decide) ?_
  refine sg_icmp_ge (pc := 52) (tgt := 76) dX3_init_52 (by decide) (fun cu => absurd cu (by omega)) (fun cu => ?_)
  refine sg_aload_n (pc := 55) (j := 0) dX3_init_55 rfl rfl ?_
  refine sg_getf (pc := 56) g dX3_init_56 fk_X3_17 (by first | assumption | (repeat (first | with_reducible exact sg_up_s | with_reducible refine (sg_up_n (by omega)).trans ?_)) <;> assumption) (by rfl) (by rfl) ?_
  refine sg_iload_n (pc := 59) (j := 1) dX3_init_59 rfl rfl ?_
  refine sg_new (pc := 60) g dX3_init_60 nk_X3_9 (by omega) (by omega) ?_
  dsimp only
  refine sg_dup (pc := 63) dX3_init_63 rfl ?_
  refine sg_bipush (pc := 64) (z := 24) dX3_init_64 (by decide) ?_
  refine sg_cI1 (pc := 66) (d' := d - 1) (mc' := 1) (ms' := 24) g dX3_init_66 cb_X0_init rfl rfl ml_X3_20 mn_X0_init (Nat.le_of_ble_eq_true rfl) (by omega) (by omega) (by omega) ?_
  refine s_X0_init (N := 24) g (by omega) rfl (by decide) (by with_reducible exact sg_up_s) rfl ?_
  refine sg_K0 ?_
  dsimp only
  refine sg_aast (pc := 69) g dX3_init_69 (by first | assumption | (repeat (first | with_reducible exact sg_up_s | with_reducible refine (sg_up_n (by omega)).trans ?_)) <;> assumption) (by first | assumption | (repeat (first | with_reducible exact sg_up_s | with_reducible refine (sg_up_n (by omega)).trans ?_)) <;> assumption) (by decide) (by decide) (Or.inl ⟨by decide, _, rfl, Or.inl rfl⟩) (by omega) (Nat.le_of_ble_eq_true rfl) ?_
  dsimp only
  first | refine sg_iincB (pc := 70) dX3_init_70 rfl (by decide) (by decide) (by omega) (by omega) ?_ | refine sg_iinc (pc := 70) dX3_init_70 rfl (by decide) (by decide) ?_
  refine sg_goto (pc := 73) (tgt := 50) dX3_init_73 (by decide) ?_
  refine sg_iload_n (pc := 50) (j := 1) dX3_init_50 rfl rfl ?_
  refine sg_iconst (pc := 51) (z := 2) dX3_init_51 (by decide) ?_
  refine sg_icmp_ge (pc := 52) (tgt := 76) dX3_init_52 (by decide) (fun cu => ?_) (fun cu => absurd cu (by omega))
  refine sg_vret (pc := 76) dX3_init_76 rfl (by omega) (by omega) ?_
  refine hQ _ (fun i hi => ?_) (fun q hq => ?_)
  · rcases (show i = 0 ∨ i = 1 ∨ i = 2 ∨ i = 3 ∨ i = 4 ∨ i = 5 ∨ i = 6 ∨ i = 7 ∨ i = 8 ∨ i = 9 ∨ i = 10 ∨ i = 11 ∨ i = 12 ∨ i = 13 ∨ i = 14 by omega) with rfl | rfl | rfl | rfl | rfl | rfl | rfl | rfl | rfl | rfl | rfl | rfl | rfl | rfl | rfl
    · show _ = some (5, [sg_r (b + 1), sg_r (b + 2)])
      (repeat (with_reducible refine (sg_up_n (by omega)).trans ?_))
      exact sg_up_s
    · show _ = some (111, [sg_r (b + 3), sg_r (b + 5), sg_r (b + 7), sg_r (b + 9)])
      (repeat (with_reducible refine (sg_up_n (by omega)).trans ?_))
      exact sg_up_s
    · show _ = some (111, [sg_r (b + 11), sg_r (b + 13)])
      (repeat (with_reducible refine (sg_up_n (by omega)).trans ?_))
      exact sg_up_s
    · show _ = some (3, [sg_r (b + 4), sg_i 0])
      (repeat (with_reducible refine (sg_up_n (by omega)).trans ?_))
      exact sg_up_s
    · show _ = some (100, ck_z 40)
      (repeat (with_reducible refine (sg_up_n (by omega)).trans ?_))
      exact sg_up_s
    · show _ = some (3, [sg_r (b + 6), sg_i 0])
      (repeat (with_reducible refine (sg_up_n (by omega)).trans ?_))
      exact sg_up_s
    · show _ = some (100, ck_z 40)
      (repeat (with_reducible refine (sg_up_n (by omega)).trans ?_))
      exact sg_up_s
    · show _ = some (3, [sg_r (b + 8), sg_i 0])
      (repeat (with_reducible refine (sg_up_n (by omega)).trans ?_))
      exact sg_up_s
    · show _ = some (100, ck_z 40)
      (repeat (with_reducible refine (sg_up_n (by omega)).trans ?_))
      exact sg_up_s
    · show _ = some (3, [sg_r (b + 10), sg_i 0])
      (repeat (with_reducible refine (sg_up_n (by omega)).trans ?_))
      exact sg_up_s
    · show _ = some (100, ck_z 40)
      (repeat (with_reducible refine (sg_up_n (by omega)).trans ?_))
      exact sg_up_s
    · show _ = some (3, [sg_r (b + 12), sg_i 0])
      (repeat (with_reducible refine (sg_up_n (by omega)).trans ?_))
      exact sg_up_s
    · show _ = some (100, ck_z 24)
      (repeat (with_reducible refine (sg_up_n (by omega)).trans ?_))
      exact sg_up_s
    · show _ = some (3, [sg_r (b + 14), sg_i 0])
      (repeat (with_reducible refine (sg_up_n (by omega)).trans ?_))
      exact sg_up_s
    · show _ = some (100, ck_z 24)
      (repeat (with_reducible refine (sg_up_n (by omega)).trans ?_))
      exact sg_up_s
  · (repeat (with_reducible refine (sg_up_n (by omega)).trans ?_))
    rfl
