set_option maxRecDepth 100000 in
theorem mo_X5_1 : sg_ok (.methodLink RX5 1 Lib.objectInit) := ⟨ts_1_32.1.1.2.1.1, rfl⟩
set_option maxRecDepth 100000 in
theorem mo_X3_3 : sg_ok (.methodLink RX3 3 Lib.objectInit) := ⟨ts_1_32.1.2.2.1.1, rfl⟩
set_option maxRecDepth 100000 in
theorem mo_X0_3 : sg_ok (.methodLink RX0 3 Lib.objectInit) := ⟨ts_1_48.1.1.1.2.2, rfl⟩
set_option maxRecDepth 100000 in
theorem mo_X1_3 : sg_ok (.methodLink RX1 3 Lib.objectInit) := ⟨ts_1_64.1.2.1.2.1, rfl⟩
set_option maxRecDepth 100000 in
theorem mo_X6_1 : sg_ok (.methodLink RX6 1 Lib.objectInit) := ⟨ts_2_192.1.2.2.1.1, rfl⟩
set_option maxRecDepth 100000 in
theorem mo_J5_3 : sg_ok (.methodLink RJ5 3 Lib.objectInit) := ⟨ts_4_80.1.2.2.1.2, rfl⟩
set_option maxRecDepth 100000 in
theorem mo_J0_1 : sg_ok (.methodLink RJ0 1 Lib.objectInit) := ⟨(tm_4 (List.mem_of_getElem? (i := 226) rfl)), rfl⟩
set_option maxRecDepth 100000 in
theorem mo_X7_1 : sg_ok (.methodLink RX7 1 Lib.objectInit) := ⟨ts_5_224.1.1.1.2.2, rfl⟩
set_option maxRecDepth 100000 in
theorem mo_Jxa1e45_1 : sg_ok (.methodLink RJxa1e45 1 Lib.objectInit) := ⟨ts_6_0.1.1.1.1.2, rfl⟩
set_option maxRecDepth 100000 in
theorem mo_in : sg_ok (.instanceMethod Lib.objectInit) := ⟨ts_1_32.1.1.2.1.2, rfl⟩
set_option maxRecDepth 100000 in
theorem mo_co : sg_ok (.code Lib.objectInit ⟨#[0xb1]⟩ 1 none) := ⟨ts_1_32.1.1.2.2.1, rfl⟩
set_option maxRecDepth 100000 in
theorem av_110 : Cond.arrayOver (.array .int) ∈ lw_tbl := ts_5_224.1.1.2.1.2
set_option maxRecDepth 100000 in
theorem av_111 : Cond.arrayOver (.object "Signkinds$Line") ∈ lw_tbl := ts_1_32.1.2.2.2.1
set_option maxRecDepth 100000 in
theorem av_112 : Cond.arrayOver (.object "Signkinds$State") ∈ lw_tbl := ts_1_64.1.2.2.1.1
set_option maxRecDepth 100000 in
theorem av_113 : Cond.arrayOver (.object "java/lang/Object") ∈ lw_tbl := ts_6_96.1.2.1.1.1
/-- a Line as it is made, and a State (15 cells from b on), and the Past's 92 -/
abbrev ck_z (N : Nat) : List sg_V := List.replicate N (sg_i 0)
def ck_se (b : Nat) : List sg_E := [(5, [sg_r (b + 1), sg_r (b + 2)]), (111, [sg_r (b + 3), sg_r (b + 5), sg_r (b + 7), sg_r (b + 9)]), (111, [sg_r (b + 11), sg_r (b + 13)]), (3, [sg_r (b + 4), sg_i 0]), (100, ck_z 40), (3, [sg_r (b + 6), sg_i 0]), (100, ck_z 40), (3, [sg_r (b + 8), sg_i 0]), (100, ck_z 40), (3, [sg_r (b + 10), sg_i 0]), (100, ck_z 40), (3, [sg_r (b + 12), sg_i 0]), (100, ck_z 24), (3, [sg_r (b + 14), sg_i 0]), (100, ck_z 24)]
set_option maxRecDepth 100000 in
theorem s_X0_init {w : sg_W} {Q : sg_O → sg_H → Prop} {h : sg_H} (g : sg_G w) {d : Nat} (hd : 2 ≤ d) {b N : Nat} {z : Int} (hz : z = (N : Int)) (hN : N ≤ 1000) (hb : h.2 b = some (3, [sg_n, sg_i 0])) (hb1 : h.1 = b + 1) (hQ : Q (.inl none) (h.1 + 1, sg_up (sg_up (sg_up h.2 h.1 (100, ck_z N)) b (3, [sg_r h.1, sg_i 0])) b (3, [sg_r h.1, sg_i 0]))) : sg_C w mi_X0_init d 1 N [sg_r b, sg_i z] h Q := by
  refine sg_of pn_X0 (Nat.le_of_ble_eq_true rfl) ?_
  refine sg_aload_n (pc := 0) (j := 0) (dc_X0_init_0.1.1.1.1) rfl rfl ?_
  refine sg_objInit (pc := 1) g (dc_X0_init_0.1.1.1.2) mo_X0_3 mo_in mo_co (Nat.le_of_ble_eq_true rfl) (by omega) ?_
  refine sg_aload_n (pc := 4) (j := 0) (dc_X0_init_0.1.1.2.1) rfl rfl ?_
  refine sg_iload_n (pc := 5) (j := 1) (dc_X0_init_0.1.1.2.2) rfl rfl ?_
  refine sg_if_ge (pc := 6) (tgt := 13) (dc_X0_init_0.1.2.1.1) (by decide) (fun c6 => ?_) (fun c6 => ?_)
  · refine sg_iload_n (pc := 13) (j := 1) (dc_X0_init_0.1.2.2.2) rfl rfl ?_
    refine sg_newa (t := 100) (N := N) (pc := 14) g (dc_X0_init_0.2.1.1.1) ac_int rfl (by decide) (by decide) rfl rfl (by decide) hz (by omega) (by omega) (by omega) ?_
    refine sg_putF (pc := 16) g (dc_X0_init_0.2.1.1.2) fk_X0_9 rfl (by first | assumption | (repeat (first | with_reducible exact sg_up_s | with_reducible refine (sg_up_n (by omega)).trans ?_)) <;> assumption) sg_ft_a ?_
    refine sg_aload_n (pc := 19) (j := 0) (dc_X0_init_0.2.1.2.1) rfl rfl ?_
    refine sg_iconst (pc := 20) (z := 0) (dc_X0_init_0.2.1.2.2) (by decide) ?_
    refine sg_putf (pc := 21) g (dc_X0_init_0.2.2.1.1) fk_X0_15 (by first | assumption | (repeat (first | with_reducible exact sg_up_s | with_reducible refine (sg_up_n (by omega)).trans ?_)) <;> assumption) sg_ft_i ?_
    refine sg_vret (pc := 24) (dc_X0_init_0.2.2.1.2) rfl (by first | exact Nat.le_of_ble_eq_true rfl | omega) (by first | exact Nat.le_of_ble_eq_true rfl | omega) ?_
    exact hQ
  · exfalso; omega

set_option maxRecDepth 100000 in
set_option maxHeartbeats 400000 in
theorem s_X3_init {w : sg_W} {Q : sg_O → sg_H → Prop} {f : Nat → Option sg_E} (g : sg_G w) {d : Nat} (hd : 3 ≤ d) {b : Nat} (hb : f b = some (5, [sg_n, sg_n])) (hQ : ∀ f' : Nat → Option sg_E, (∀ i, i < 15 → f' (b + i) = (ck_se b)[i]?) → (∀ q, (q < b ∨ b + 15 ≤ q) → f' q = f q) → Q (.inl none) (b + 15, f')) : sg_C w mi_X3_init d 14 226 [sg_r b] (b + 1, f) Q := by
  refine sg_of pn_X3 (Nat.le_of_ble_eq_true rfl) ?_
  refine sg_aload_n (pc := 0) (j := 0) (dc_X3_init_0.1.1.1.1) rfl rfl ?_
  refine sg_objInit (pc := 1) g (dc_X3_init_0.1.1.1.2) mo_X3_3 mo_in mo_co (Nat.le_of_ble_eq_true rfl) (by omega) ?_
  refine sg_aload_n (pc := 4) (j := 0) (dc_X3_init_0.1.1.2.1) rfl rfl ?_
  refine sg_iconst (pc := 5) (z := 4) (dc_X3_init_0.1.1.2.2) (by decide) ?_
  refine sg_anew (t := 111) (N := 4) (pc := 6) g (dc_X3_init_0.1.2.1.1) cl_X3_9 av_111 rfl (by decide) (by decide) (by omega) (by omega) (by omega) (by omega) ?_
  try dsimp only
  refine sg_putF (pc := 9) g (dc_X3_init_0.1.2.1.2) fk_X3_11 rfl (by first | assumption | (repeat (first | with_reducible exact sg_up_s | with_reducible refine (sg_up_n (by omega)).trans ?_)) <;> assumption) sg_ft_a ?_
  try dsimp only
  refine sg_aload_n (pc := 12) (j := 0) (dc_X3_init_0.1.2.2.1) rfl rfl ?_
  refine sg_iconst (pc := 13) (z := 2) (dc_X3_init_0.1.2.2.2) (by decide) ?_
  refine sg_anew (t := 111) (N := 2) (pc := 14) g (dc_X3_init_0.2.1.1.1) cl_X3_9 av_111 rfl (by decide) (by decide) (by omega) (by omega) (by omega) (by omega) ?_
  try dsimp only
  refine sg_putF (pc := 17) g (dc_X3_init_0.2.1.1.2) fk_X3_17 rfl (by first | assumption | (repeat (first | with_reducible exact sg_up_s | with_reducible refine (sg_up_n (by omega)).trans ?_)) <;> assumption) sg_ft_a ?_
  try dsimp only
  refine sg_iconst (pc := 20) (z := 0) (dc_X3_init_0.2.1.2.1) (by decide) ?_
  refine sg_istore_n (pc := 21) (j := 1) (dc_X3_init_0.2.1.2.2) rfl (by decide) ?_
  refine sg_iload_n (pc := 22) (j := 1) (dc_X3_init_0.2.2.1.1) rfl rfl ?_
  refine sg_iconst (pc := 23) (z := 4) (dc_X3_init_0.2.2.1.2) (by decide) ?_
  refine sg_icmp_ge (pc := 24) (tgt := 48) (dc_X3_init_0.2.2.2.1) (by decide) (fun cu => absurd cu (by omega)) (fun cu => ?_)
  refine sg_aload_n (pc := 27) (j := 0) (dc_X3_init_0.2.2.2.2) rfl rfl ?_
  refine sg_getf (pc := 28) g (dc_X3_init_28.1.1.1.1) fk_X3_11 (by first | assumption | (repeat (first | with_reducible exact sg_up_s | with_reducible refine (sg_up_n (by omega)).trans ?_)) <;> assumption) (by rfl) (by rfl) ?_
  refine sg_iload_n (pc := 31) (j := 1) (dc_X3_init_28.1.1.1.2) rfl rfl ?_
  refine sg_new (pc := 32) g (dc_X3_init_28.1.1.2.1) nk_X3_9 (by first | exact Nat.le_of_ble_eq_true rfl | omega) (by first | exact Nat.le_of_ble_eq_true rfl | omega) ?_
  try dsimp only
  refine sg_dup (pc := 35) (dc_X3_init_28.1.1.2.2) rfl ?_
  refine sg_bipush (pc := 36) (z := 40) (dc_X3_init_28.1.2.1.1) (by decide) ?_
  refine sg_cI1 (pc := 38) (d' := d - 1) (mc' := 1) (ms' := 40) g (dc_X3_init_28.1.2.1.2) cb_X0_init rfl rfl ml_X3_20 mn_X0_init (Nat.le_of_ble_eq_true rfl) (by first | exact jl_d0 hd rfl | omega) (by first | exact Nat.le_of_ble_eq_true rfl | omega) (by first | exact Nat.le_of_ble_eq_true rfl | omega) ?_
  refine s_X0_init (N := 40) g (by first | exact jl_d1 hd rfl | omega) rfl (by decide) (by with_reducible exact sg_up_s) rfl ?_
  refine sg_K0 ?_
  try dsimp only
  refine sg_aast (pc := 41) g (dc_X3_init_28.1.2.2.1) (by first | assumption | (repeat (first | with_reducible exact sg_up_s | with_reducible refine (sg_up_n (by omega)).trans ?_)) <;> assumption) (by first | assumption | (repeat (first | with_reducible exact sg_up_s | with_reducible refine (sg_up_n (by omega)).trans ?_)) <;> assumption) (by decide) (by decide) (Or.inl ⟨by decide, _, rfl, Or.inl rfl⟩) (by omega) (Nat.le_of_ble_eq_true rfl) ?_
  try dsimp only
  first | refine sg_iincB (pc := 42) (dc_X3_init_28.1.2.2.2) rfl (by decide) (by decide) (by omega) (by omega) ?_ | refine sg_iinc (pc := 42) (dc_X3_init_28.1.2.2.2) rfl (by decide) (by decide) ?_
  refine sg_goto (pc := 45) (tgt := 22) (dc_X3_init_28.2.1.1.1) (by decide) ?_
  refine sg_iload_n (pc := 22) (j := 1) (dc_X3_init_0.2.2.1.1) rfl rfl ?_
  refine sg_iconst (pc := 23) (z := 4) (dc_X3_init_0.2.2.1.2) (by decide) ?_
  refine sg_icmp_ge (pc := 24) (tgt := 48) (dc_X3_init_0.2.2.2.1) (by decide) (fun cu => absurd cu (by omega)) (fun cu => ?_)
  refine sg_aload_n (pc := 27) (j := 0) (dc_X3_init_0.2.2.2.2) rfl rfl ?_
  refine sg_getf (pc := 28) g (dc_X3_init_28.1.1.1.1) fk_X3_11 (by first | assumption | (repeat (first | with_reducible exact sg_up_s | with_reducible refine (sg_up_n (by omega)).trans ?_)) <;> assumption) (by rfl) (by rfl) ?_
  refine sg_iload_n (pc := 31) (j := 1) (dc_X3_init_28.1.1.1.2) rfl rfl ?_
  refine sg_new (pc := 32) g (dc_X3_init_28.1.1.2.1) nk_X3_9 (by first | exact Nat.le_of_ble_eq_true rfl | omega) (by first | exact Nat.le_of_ble_eq_true rfl | omega) ?_
  try dsimp only
  refine sg_dup (pc := 35) (dc_X3_init_28.1.1.2.2) rfl ?_
  refine sg_bipush (pc := 36) (z := 40) (dc_X3_init_28.1.2.1.1) (by decide) ?_
  refine sg_cI1 (pc := 38) (d' := d - 1) (mc' := 1) (ms' := 40) g (dc_X3_init_28.1.2.1.2) cb_X0_init rfl rfl ml_X3_20 mn_X0_init (Nat.le_of_ble_eq_true rfl) (by first | exact jl_d0 hd rfl | omega) (by first | exact Nat.le_of_ble_eq_true rfl | omega) (by first | exact Nat.le_of_ble_eq_true rfl | omega) ?_
  refine s_X0_init (N := 40) g (by first | exact jl_d1 hd rfl | omega) rfl (by decide) (by with_reducible exact sg_up_s) rfl ?_
  refine sg_K0 ?_
  try dsimp only
  refine sg_aast (pc := 41) g (dc_X3_init_28.1.2.2.1) (by first | assumption | (repeat (first | with_reducible exact sg_up_s | with_reducible refine (sg_up_n (by omega)).trans ?_)) <;> assumption) (by first | assumption | (repeat (first | with_reducible exact sg_up_s | with_reducible refine (sg_up_n (by omega)).trans ?_)) <;> assumption) (by decide) (by decide) (Or.inl ⟨by decide, _, rfl, Or.inl rfl⟩) (by omega) (Nat.le_of_ble_eq_true rfl) ?_
  try dsimp only
  first | refine sg_iincB (pc := 42) (dc_X3_init_28.1.2.2.2) rfl (by decide) (by decide) (by omega) (by omega) ?_ | refine sg_iinc (pc := 42) (dc_X3_init_28.1.2.2.2) rfl (by decide) (by decide) ?_
  refine sg_goto (pc := 45) (tgt := 22) (dc_X3_init_28.2.1.1.1) (by decide) ?_
  refine sg_iload_n (pc := 22) (j := 1) (dc_X3_init_0.2.2.1.1) rfl rfl ?_
  refine sg_iconst (pc := 23) (z := 4) (dc_X3_init_0.2.2.1.2) (by decide) ?_
  refine sg_icmp_ge (pc := 24) (tgt := 48) (dc_X3_init_0.2.2.2.1) (by decide) (fun cu => absurd cu (by omega)) (fun cu => ?_)
  refine sg_aload_n (pc := 27) (j := 0) (dc_X3_init_0.2.2.2.2) rfl rfl ?_
  refine sg_getf (pc := 28) g (dc_X3_init_28.1.1.1.1) fk_X3_11 (by first | assumption | (repeat (first | with_reducible exact sg_up_s | with_reducible refine (sg_up_n (by omega)).trans ?_)) <;> assumption) (by rfl) (by rfl) ?_
  refine sg_iload_n (pc := 31) (j := 1) (dc_X3_init_28.1.1.1.2) rfl rfl ?_
  refine sg_new (pc := 32) g (dc_X3_init_28.1.1.2.1) nk_X3_9 (by first | exact Nat.le_of_ble_eq_true rfl | omega) (by first | exact Nat.le_of_ble_eq_true rfl | omega) ?_
  try dsimp only
  refine sg_dup (pc := 35) (dc_X3_init_28.1.1.2.2) rfl ?_
  refine sg_bipush (pc := 36) (z := 40) (dc_X3_init_28.1.2.1.1) (by decide) ?_
  refine sg_cI1 (pc := 38) (d' := d - 1) (mc' := 1) (ms' := 40) g (dc_X3_init_28.1.2.1.2) cb_X0_init rfl rfl ml_X3_20 mn_X0_init (Nat.le_of_ble_eq_true rfl) (by first | exact jl_d0 hd rfl | omega) (by first | exact Nat.le_of_ble_eq_true rfl | omega) (by first | exact Nat.le_of_ble_eq_true rfl | omega) ?_
  refine s_X0_init (N := 40) g (by first | exact jl_d1 hd rfl | omega) rfl (by decide) (by with_reducible exact sg_up_s) rfl ?_
  refine sg_K0 ?_
  try dsimp only
  refine sg_aast (pc := 41) g (dc_X3_init_28.1.2.2.1) (by first | assumption | (repeat (first | with_reducible exact sg_up_s | with_reducible refine (sg_up_n (by omega)).trans ?_)) <;> assumption) (by first | assumption | (repeat (first | with_reducible exact sg_up_s | with_reducible refine (sg_up_n (by omega)).trans ?_)) <;> assumption) (by decide) (by decide) (Or.inl ⟨by decide, _, rfl, Or.inl rfl⟩) (by omega) (Nat.le_of_ble_eq_true rfl) ?_
  try dsimp only
  first | refine sg_iincB (pc := 42) (dc_X3_init_28.1.2.2.2) rfl (by decide) (by decide) (by omega) (by omega) ?_ | refine sg_iinc (pc := 42) (dc_X3_init_28.1.2.2.2) rfl (by decide) (by decide) ?_
  refine sg_goto (pc := 45) (tgt := 22) (dc_X3_init_28.2.1.1.1) (by decide) ?_
  refine sg_iload_n (pc := 22) (j := 1) (dc_X3_init_0.2.2.1.1) rfl rfl ?_
  refine sg_iconst (pc := 23) (z := 4) (dc_X3_init_0.2.2.1.2) (by decide) ?_
  refine sg_icmp_ge (pc := 24) (tgt := 48) (dc_X3_init_0.2.2.2.1) (by decide) (fun cu => absurd cu (by omega)) (fun cu => ?_)
  refine sg_aload_n (pc := 27) (j := 0) (dc_X3_init_0.2.2.2.2) rfl rfl ?_
  refine sg_getf (pc := 28) g (dc_X3_init_28.1.1.1.1) fk_X3_11 (by first | assumption | (repeat (first | with_reducible exact sg_up_s | with_reducible refine (sg_up_n (by omega)).trans ?_)) <;> assumption) (by rfl) (by rfl) ?_
  refine sg_iload_n (pc := 31) (j := 1) (dc_X3_init_28.1.1.1.2) rfl rfl ?_
  refine sg_new (pc := 32) g (dc_X3_init_28.1.1.2.1) nk_X3_9 (by first | exact Nat.le_of_ble_eq_true rfl | omega) (by first | exact Nat.le_of_ble_eq_true rfl | omega) ?_
  try dsimp only
  refine sg_dup (pc := 35) (dc_X3_init_28.1.1.2.2) rfl ?_
  refine sg_bipush (pc := 36) (z := 40) (dc_X3_init_28.1.2.1.1) (by decide) ?_
  refine sg_cI1 (pc := 38) (d' := d - 1) (mc' := 1) (ms' := 40) g (dc_X3_init_28.1.2.1.2) cb_X0_init rfl rfl ml_X3_20 mn_X0_init (Nat.le_of_ble_eq_true rfl) (by first | exact jl_d0 hd rfl | omega) (by first | exact Nat.le_of_ble_eq_true rfl | omega) (by first | exact Nat.le_of_ble_eq_true rfl | omega) ?_
  refine s_X0_init (N := 40) g (by first | exact jl_d1 hd rfl | omega) rfl (by decide) (by with_reducible exact sg_up_s) rfl ?_
  refine sg_K0 ?_
  try dsimp only
  refine sg_aast (pc := 41) g (dc_X3_init_28.1.2.2.1) (by first | assumption | (repeat (first | with_reducible exact sg_up_s | with_reducible refine (sg_up_n (by omega)).trans ?_)) <;> assumption) (by first | assumption | (repeat (first | with_reducible exact sg_up_s | with_reducible refine (sg_up_n (by omega)).trans ?_)) <;> assumption) (by decide) (by decide) (Or.inl ⟨by decide, _, rfl, Or.inl rfl⟩) (by omega) (Nat.le_of_ble_eq_true rfl) ?_
  try dsimp only
  first | refine sg_iincB (pc := 42) (dc_X3_init_28.1.2.2.2) rfl (by decide) (by decide) (by omega) (by omega) ?_ | refine sg_iinc (pc := 42) (dc_X3_init_28.1.2.2.2) rfl (by decide) (by decide) ?_
  refine sg_goto (pc := 45) (tgt := 22) (dc_X3_init_28.2.1.1.1) (by decide) ?_
  refine sg_iload_n (pc := 22) (j := 1) (dc_X3_init_0.2.2.1.1) rfl rfl ?_
  refine sg_iconst (pc := 23) (z := 4) (dc_X3_init_0.2.2.1.2) (by decide) ?_
  refine sg_icmp_ge (pc := 24) (tgt := 48) (dc_X3_init_0.2.2.2.1) (by decide) (fun cu => ?_) (fun cu => absurd cu (by omega))
  refine sg_iconst (pc := 48) (z := 0) (dc_X3_init_28.2.1.1.2) (by decide) ?_
  refine sg_istore_n (pc := 49) (j := 1) (dc_X3_init_28.2.1.2.1) rfl (by decide) ?_
  refine sg_iload_n (pc := 50) (j := 1) (dc_X3_init_28.2.1.2.2) rfl rfl ?_
  refine sg_iconst (pc := 51) (z := 2) (dc_X3_init_28.2.2.1.1) (by decide) ?_
  refine sg_icmp_ge (pc := 52) (tgt := 76) (dc_X3_init_28.2.2.1.2) (by decide) (fun cu => absurd cu (by omega)) (fun cu => ?_)
  refine sg_aload_n (pc := 55) (j := 0) (dc_X3_init_28.2.2.2.1) rfl rfl ?_
  refine sg_getf (pc := 56) g (dc_X3_init_28.2.2.2.2) fk_X3_17 (by first | assumption | (repeat (first | with_reducible exact sg_up_s | with_reducible refine (sg_up_n (by omega)).trans ?_)) <;> assumption) (by rfl) (by rfl) ?_
  refine sg_iload_n (pc := 59) (j := 1) (dc_X3_init_59.1.1.1.1) rfl rfl ?_
  refine sg_new (pc := 60) g (dc_X3_init_59.1.1.1.2) nk_X3_9 (by first | exact Nat.le_of_ble_eq_true rfl | omega) (by first | exact Nat.le_of_ble_eq_true rfl | omega) ?_
  try dsimp only
  refine sg_dup (pc := 63) (dc_X3_init_59.1.1.2.1) rfl ?_
  refine sg_bipush (pc := 64) (z := 24) (dc_X3_init_59.1.1.2.2) (by decide) ?_
  refine sg_cI1 (pc := 66) (d' := d - 1) (mc' := 1) (ms' := 24) g (dc_X3_init_59.1.2.1.1) cb_X0_init rfl rfl ml_X3_20 mn_X0_init (Nat.le_of_ble_eq_true rfl) (by first | exact jl_d0 hd rfl | omega) (by first | exact Nat.le_of_ble_eq_true rfl | omega) (by first | exact Nat.le_of_ble_eq_true rfl | omega) ?_
  refine s_X0_init (N := 24) g (by first | exact jl_d1 hd rfl | omega) rfl (by decide) (by with_reducible exact sg_up_s) rfl ?_
  refine sg_K0 ?_
  try dsimp only
  refine sg_aast (pc := 69) g (dc_X3_init_59.1.2.1.2) (by first | assumption | (repeat (first | with_reducible exact sg_up_s | with_reducible refine (sg_up_n (by omega)).trans ?_)) <;> assumption) (by first | assumption | (repeat (first | with_reducible exact sg_up_s | with_reducible refine (sg_up_n (by omega)).trans ?_)) <;> assumption) (by decide) (by decide) (Or.inl ⟨by decide, _, rfl, Or.inl rfl⟩) (by omega) (Nat.le_of_ble_eq_true rfl) ?_
  try dsimp only
  first | refine sg_iincB (pc := 70) (dc_X3_init_59.1.2.2.1) rfl (by decide) (by decide) (by omega) (by omega) ?_ | refine sg_iinc (pc := 70) (dc_X3_init_59.1.2.2.1) rfl (by decide) (by decide) ?_
  refine sg_goto (pc := 73) (tgt := 50) (dc_X3_init_59.1.2.2.2) (by decide) ?_
  refine sg_iload_n (pc := 50) (j := 1) (dc_X3_init_28.2.1.2.2) rfl rfl ?_
  refine sg_iconst (pc := 51) (z := 2) (dc_X3_init_28.2.2.1.1) (by decide) ?_
  refine sg_icmp_ge (pc := 52) (tgt := 76) (dc_X3_init_28.2.2.1.2) (by decide) (fun cu => absurd cu (by omega)) (fun cu => ?_)
  refine sg_aload_n (pc := 55) (j := 0) (dc_X3_init_28.2.2.2.1) rfl rfl ?_
  refine sg_getf (pc := 56) g (dc_X3_init_28.2.2.2.2) fk_X3_17 (by first | assumption | (repeat (first | with_reducible exact sg_up_s | with_reducible refine (sg_up_n (by omega)).trans ?_)) <;> assumption) (by rfl) (by rfl) ?_
  refine sg_iload_n (pc := 59) (j := 1) (dc_X3_init_59.1.1.1.1) rfl rfl ?_
  refine sg_new (pc := 60) g (dc_X3_init_59.1.1.1.2) nk_X3_9 (by first | exact Nat.le_of_ble_eq_true rfl | omega) (by first | exact Nat.le_of_ble_eq_true rfl | omega) ?_
  try dsimp only
  refine sg_dup (pc := 63) (dc_X3_init_59.1.1.2.1) rfl ?_
  refine sg_bipush (pc := 64) (z := 24) (dc_X3_init_59.1.1.2.2) (by decide) ?_
  refine sg_cI1 (pc := 66) (d' := d - 1) (mc' := 1) (ms' := 24) g (dc_X3_init_59.1.2.1.1) cb_X0_init rfl rfl ml_X3_20 mn_X0_init (Nat.le_of_ble_eq_true rfl) (by first | exact jl_d0 hd rfl | omega) (by first | exact Nat.le_of_ble_eq_true rfl | omega) (by first | exact Nat.le_of_ble_eq_true rfl | omega) ?_
  refine s_X0_init (N := 24) g (by first | exact jl_d1 hd rfl | omega) rfl (by decide) (by with_reducible exact sg_up_s) rfl ?_
  refine sg_K0 ?_
  try dsimp only
  refine sg_aast (pc := 69) g (dc_X3_init_59.1.2.1.2) (by first | assumption | (repeat (first | with_reducible exact sg_up_s | with_reducible refine (sg_up_n (by omega)).trans ?_)) <;> assumption) (by first | assumption | (repeat (first | with_reducible exact sg_up_s | with_reducible refine (sg_up_n (by omega)).trans ?_)) <;> assumption) (by decide) (by decide) (Or.inl ⟨by decide, _, rfl, Or.inl rfl⟩) (by omega) (Nat.le_of_ble_eq_true rfl) ?_
  try dsimp only
  first | refine sg_iincB (pc := 70) (dc_X3_init_59.1.2.2.1) rfl (by decide) (by decide) (by omega) (by omega) ?_ | refine sg_iinc (pc := 70) (dc_X3_init_59.1.2.2.1) rfl (by decide) (by decide) ?_
  refine sg_goto (pc := 73) (tgt := 50) (dc_X3_init_59.1.2.2.2) (by decide) ?_
  refine sg_iload_n (pc := 50) (j := 1) (dc_X3_init_28.2.1.2.2) rfl rfl ?_
  refine sg_iconst (pc := 51) (z := 2) (dc_X3_init_28.2.2.1.1) (by decide) ?_
  refine sg_icmp_ge (pc := 52) (tgt := 76) (dc_X3_init_28.2.2.1.2) (by decide) (fun cu => ?_) (fun cu => absurd cu (by omega))
  refine sg_vret (pc := 76) (dc_X3_init_59.2.1.1.1) rfl (by first | exact Nat.le_of_ble_eq_true rfl | omega) (by first | exact Nat.le_of_ble_eq_true rfl | omega) ?_
  refine hQ _ (fun i hi => ?_) (fun q hq => ?_)
  · rcases (show i = 0 ∨ i = 1 ∨ i = 2 ∨ i = 3 ∨ i = 4 ∨ i = 5 ∨ i = 6 ∨ i = 7 ∨ i = 8 ∨ i = 9 ∨ i = 10 ∨ i = 11 ∨ i = 12 ∨ i = 13 ∨ i = 14 by omega) with rfl | rfl | rfl | rfl | rfl | rfl | rfl | rfl | rfl | rfl | rfl | rfl | rfl | rfl | rfl
    · show _ = some (5, [sg_r (b + 1), sg_r (b + 2)])
      (repeat (with_reducible refine (sg_up_n (by omega)).trans ?_))
      exact sg_up_s
    · show _ = some (111, [sg_r (b + 3), sg_r (b + 5), sg_r (b + 7), sg_r (b + 9)])
      (repeat (with_reducible refine (sg_up_n (by omega)).trans ?_))
      exact sg_up_s
    · show _ = some (111, [sg_r (b + 11), sg_r (b + 13)])
      (repeat (with_reducible refine (sg_up_n (by omega)).trans ?_))
      exact sg_up_s
    · show _ = some (3, [sg_r (b + 4), sg_i 0])
      (repeat (with_reducible refine (sg_up_n (by omega)).trans ?_))
      exact sg_up_s
    · show _ = some (100, ck_z 40)
      (repeat (with_reducible refine (sg_up_n (by omega)).trans ?_))
      exact sg_up_s
    · show _ = some (3, [sg_r (b + 6), sg_i 0])
      (repeat (with_reducible refine (sg_up_n (by omega)).trans ?_))
      exact sg_up_s
    · show _ = some (100, ck_z 40)
      (repeat (with_reducible refine (sg_up_n (by omega)).trans ?_))
      exact sg_up_s
    · show _ = some (3, [sg_r (b + 8), sg_i 0])
      (repeat (with_reducible refine (sg_up_n (by omega)).trans ?_))
      exact sg_up_s
    · show _ = some (100, ck_z 40)
      (repeat (with_reducible refine (sg_up_n (by omega)).trans ?_))
      exact sg_up_s
    · show _ = some (3, [sg_r (b + 10), sg_i 0])
      (repeat (with_reducible refine (sg_up_n (by omega)).trans ?_))
      exact sg_up_s
    · show _ = some (100, ck_z 40)
      (repeat (with_reducible refine (sg_up_n (by omega)).trans ?_))
      exact sg_up_s
    · show _ = some (3, [sg_r (b + 12), sg_i 0])
      (repeat (with_reducible refine (sg_up_n (by omega)).trans ?_))
      exact sg_up_s
    · show _ = some (100, ck_z 24)
      (repeat (with_reducible refine (sg_up_n (by omega)).trans ?_))
      exact sg_up_s
    · show _ = some (3, [sg_r (b + 14), sg_i 0])
      (repeat (with_reducible refine (sg_up_n (by omega)).trans ?_))
      exact sg_up_s
    · show _ = some (100, ck_z 24)
      (repeat (with_reducible refine (sg_up_n (by omega)).trans ?_))
      exact sg_up_s
  · (repeat (with_reducible refine (sg_up_n (by omega)).trans ?_))
    rfl

set_option maxRecDepth 100000 in
set_option maxHeartbeats 400000 in
theorem s_X1_init {w : sg_W} {Q : sg_O → sg_H → Prop} {f : Nat → Option sg_E} (g : sg_G w) {d : Nat} (hd : 4 ≤ d) {P : Nat} (hb : f P = some (4, [sg_n, sg_i 0])) (hQ : ∀ f' : Nat → Option sg_E, f' P = some (4, [sg_r (P + 1), sg_i 0]) → f' (P + 1) = some (112, [sg_r (P + 2), sg_r (P + 17), sg_r (P + 32), sg_r (P + 47), sg_r (P + 62), sg_r (P + 77)]) → (∀ k i, k < 6 → i < 15 → f' (P + 2 + 15 * k + i) = (ck_se (P + 2 + 15 * k))[i]?) → (∀ q, (q < P ∨ P + 92 ≤ q) → f' q = f q) → Q (.inl none) (P + 92, f')) : sg_C w mi_X1_init d 91 1374 [sg_r P] (P + 1, f) Q := by
  refine sg_of pn_X1 (Nat.le_of_ble_eq_true rfl) ?_
  refine sg_aload_n (pc := 0) (j := 0) (dc_X1_init_0.1.1.1.1) rfl rfl ?_
  refine sg_objInit (pc := 1) g (dc_X1_init_0.1.1.1.2) mo_X1_3 mo_in mo_co (Nat.le_of_ble_eq_true rfl) (by omega) ?_
  refine sg_aload_n (pc := 4) (j := 0) (dc_X1_init_0.1.1.2.1) rfl rfl ?_
  refine sg_bipush (pc := 5) (z := 6) (dc_X1_init_0.1.1.2.2) (by decide) ?_
  refine sg_anew (t := 112) (N := 6) (pc := 7) g (dc_X1_init_0.1.2.1.1) cl_X1_9 av_112 rfl (by decide) (by decide) (by omega) (by omega) (by omega) (by omega) ?_
  try dsimp only
  refine sg_putF (pc := 10) g (dc_X1_init_0.1.2.1.2) fk_X1_11 rfl (by first | assumption | (repeat (first | with_reducible exact sg_up_s | with_reducible refine (sg_up_n (by omega)).trans ?_)) <;> assumption) sg_ft_a ?_
  try dsimp only
  have ap : sg_up (sg_up f (P + 1) (112, List.replicate 6 sg_n)) P (4, [sg_r (P + 1), sg_i 0]) P = some (4, [sg_r (P + 1), sg_i 0]) := sg_up_s
  have vp : sg_up (sg_up f (P + 1) (112, List.replicate 6 sg_n)) P (4, [sg_r (P + 1), sg_i 0]) (P + 1) = some (112, [sg_n, sg_n, sg_n, sg_n, sg_n, sg_n]) := (sg_up_n (by omega)).trans sg_up_s
  refine sg_iconst (pc := 13) (z := 0) (dc_X1_init_0.1.2.2.1) (by decide) ?_
  refine sg_istore_n (pc := 14) (j := 1) (dc_X1_init_0.1.2.2.2) rfl (by decide) ?_
  refine sg_iload_n (pc := 15) (j := 1) (dc_X1_init_0.2.1.1.1) rfl rfl ?_
  refine sg_bipush (pc := 16) (z := 6) (dc_X1_init_0.2.1.1.2) (by decide) ?_
  refine sg_icmp_ge (pc := 18) (tgt := 40) (dc_X1_init_0.2.1.2.1) (by decide) (fun cu => absurd cu (by omega)) (fun cu => ?_)
  refine sg_aload_n (pc := 21) (j := 0) (dc_X1_init_0.2.1.2.2) rfl rfl ?_
  refine sg_getf (pc := 22) g (dc_X1_init_0.2.2.1.1) fk_X1_11 ap rfl rfl ?_
  refine sg_iload_n (pc := 25) (j := 1) (dc_X1_init_0.2.2.1.2) rfl rfl ?_
  refine sg_new (pc := 26) g (dc_X1_init_0.2.2.2.1) nk_X1_9 (by first | exact Nat.le_of_ble_eq_true rfl | omega) (by first | exact Nat.le_of_ble_eq_true rfl | omega) ?_
  try dsimp only
  refine sg_dup (pc := 29) (dc_X1_init_0.2.2.2.2) rfl ?_
  refine sg_cI0 (pc := 30) (d' := d - 1) (mc' := 14) (ms' := 226) g (dc_X1_init_30.1.1.1) cb_X3_init rfl rfl ml_X1_17 mn_X3_init (Nat.le_of_ble_eq_true rfl) (by first | exact jl_d0 hd rfl | omega) (by first | exact Nat.le_of_ble_eq_true rfl | omega) (by first | exact Nat.le_of_ble_eq_true rfl | omega) ?_
  refine s_X3_init g (by first | exact jl_d1 hd rfl | omega) (by with_reducible exact sg_up_s) (fun f0 e0 r0 => ?_)
  refine sg_K0 ?_
  try dsimp only
  have a0 : f0 P = some (4, [sg_r (P + 1), sg_i 0]) := (r0 _ (by omega)).trans ((sg_up_n (by omega)).trans ap)
  have v0 : f0 (P + 1) = some (112, [sg_n, sg_n, sg_n, sg_n, sg_n, sg_n]) := (r0 _ (by omega)).trans ((sg_up_n (by omega)).trans vp)
  refine sg_aast (pc := 33) g (dc_X1_init_30.1.1.2) v0 (show f0 (P + 2) = some (5, [sg_r (P + 3), sg_r (P + 4)]) from e0 0 (by decide)) (by decide) (by decide) (Or.inl ⟨by decide, _, rfl, Or.inl rfl⟩) (by omega) (Nat.le_of_ble_eq_true rfl) ?_
  try dsimp only
  have aq0 : sg_up f0 (P + 1) (112, [sg_r (P + 2), sg_n, sg_n, sg_n, sg_n, sg_n]) P = some (4, [sg_r (P + 1), sg_i 0]) := (sg_up_n (by omega)).trans a0
  have vq0 : sg_up f0 (P + 1) (112, [sg_r (P + 2), sg_n, sg_n, sg_n, sg_n, sg_n]) (P + 1) = some (112, [sg_r (P + 2), sg_n, sg_n, sg_n, sg_n, sg_n]) := sg_up_s
  first | refine sg_iincB (pc := 34) (dc_X1_init_30.1.2.1) rfl (by decide) (by decide) (by omega) (by omega) ?_ | refine sg_iinc (pc := 34) (dc_X1_init_30.1.2.1) rfl (by decide) (by decide) ?_
  refine sg_goto (pc := 37) (tgt := 15) (dc_X1_init_30.1.2.2) (by decide) ?_
  refine sg_iload_n (pc := 15) (j := 1) (dc_X1_init_0.2.1.1.1) rfl rfl ?_
  refine sg_bipush (pc := 16) (z := 6) (dc_X1_init_0.2.1.1.2) (by decide) ?_
  refine sg_icmp_ge (pc := 18) (tgt := 40) (dc_X1_init_0.2.1.2.1) (by decide) (fun cu => absurd cu (by omega)) (fun cu => ?_)
  refine sg_aload_n (pc := 21) (j := 0) (dc_X1_init_0.2.1.2.2) rfl rfl ?_
  refine sg_getf (pc := 22) g (dc_X1_init_0.2.2.1.1) fk_X1_11 aq0 rfl rfl ?_
  refine sg_iload_n (pc := 25) (j := 1) (dc_X1_init_0.2.2.1.2) rfl rfl ?_
  refine sg_new (pc := 26) g (dc_X1_init_0.2.2.2.1) nk_X1_9 (by first | exact Nat.le_of_ble_eq_true rfl | omega) (by first | exact Nat.le_of_ble_eq_true rfl | omega) ?_
  try dsimp only
  refine sg_dup (pc := 29) (dc_X1_init_0.2.2.2.2) rfl ?_
  refine sg_cI0 (pc := 30) (d' := d - 1) (mc' := 14) (ms' := 226) g (dc_X1_init_30.1.1.1) cb_X3_init rfl rfl ml_X1_17 mn_X3_init (Nat.le_of_ble_eq_true rfl) (by first | exact jl_d0 hd rfl | omega) (by first | exact Nat.le_of_ble_eq_true rfl | omega) (by first | exact Nat.le_of_ble_eq_true rfl | omega) ?_
  refine s_X3_init g (by first | exact jl_d1 hd rfl | omega) (by with_reducible exact sg_up_s) (fun f1 e1 r1 => ?_)
  refine sg_K0 ?_
  try dsimp only
  have a1 : f1 P = some (4, [sg_r (P + 1), sg_i 0]) := (r1 _ (by omega)).trans ((sg_up_n (by omega)).trans aq0)
  have v1 : f1 (P + 1) = some (112, [sg_r (P + 2), sg_n, sg_n, sg_n, sg_n, sg_n]) := (r1 _ (by omega)).trans ((sg_up_n (by omega)).trans vq0)
  refine sg_aast (pc := 33) g (dc_X1_init_30.1.1.2) v1 (show f1 (P + 17) = some (5, [sg_r (P + 18), sg_r (P + 19)]) from e1 0 (by decide)) (by decide) (by decide) (Or.inl ⟨by decide, _, rfl, Or.inl rfl⟩) (by omega) (Nat.le_of_ble_eq_true rfl) ?_
  try dsimp only
  have aq1 : sg_up f1 (P + 1) (112, [sg_r (P + 2), sg_r (P + 17), sg_n, sg_n, sg_n, sg_n]) P = some (4, [sg_r (P + 1), sg_i 0]) := (sg_up_n (by omega)).trans a1
  have vq1 : sg_up f1 (P + 1) (112, [sg_r (P + 2), sg_r (P + 17), sg_n, sg_n, sg_n, sg_n]) (P + 1) = some (112, [sg_r (P + 2), sg_r (P + 17), sg_n, sg_n, sg_n, sg_n]) := sg_up_s
  first | refine sg_iincB (pc := 34) (dc_X1_init_30.1.2.1) rfl (by decide) (by decide) (by omega) (by omega) ?_ | refine sg_iinc (pc := 34) (dc_X1_init_30.1.2.1) rfl (by decide) (by decide) ?_
  refine sg_goto (pc := 37) (tgt := 15) (dc_X1_init_30.1.2.2) (by decide) ?_
  refine sg_iload_n (pc := 15) (j := 1) (dc_X1_init_0.2.1.1.1) rfl rfl ?_
  refine sg_bipush (pc := 16) (z := 6) (dc_X1_init_0.2.1.1.2) (by decide) ?_
  refine sg_icmp_ge (pc := 18) (tgt := 40) (dc_X1_init_0.2.1.2.1) (by decide) (fun cu => absurd cu (by omega)) (fun cu => ?_)
  refine sg_aload_n (pc := 21) (j := 0) (dc_X1_init_0.2.1.2.2) rfl rfl ?_
  refine sg_getf (pc := 22) g (dc_X1_init_0.2.2.1.1) fk_X1_11 aq1 rfl rfl ?_
  refine sg_iload_n (pc := 25) (j := 1) (dc_X1_init_0.2.2.1.2) rfl rfl ?_
  refine sg_new (pc := 26) g (dc_X1_init_0.2.2.2.1) nk_X1_9 (by first | exact Nat.le_of_ble_eq_true rfl | omega) (by first | exact Nat.le_of_ble_eq_true rfl | omega) ?_
  try dsimp only
  refine sg_dup (pc := 29) (dc_X1_init_0.2.2.2.2) rfl ?_
  refine sg_cI0 (pc := 30) (d' := d - 1) (mc' := 14) (ms' := 226) g (dc_X1_init_30.1.1.1) cb_X3_init rfl rfl ml_X1_17 mn_X3_init (Nat.le_of_ble_eq_true rfl) (by first | exact jl_d0 hd rfl | omega) (by first | exact Nat.le_of_ble_eq_true rfl | omega) (by first | exact Nat.le_of_ble_eq_true rfl | omega) ?_
  refine s_X3_init g (by first | exact jl_d1 hd rfl | omega) (by with_reducible exact sg_up_s) (fun f2 e2 r2 => ?_)
  refine sg_K0 ?_
  try dsimp only
  have a2 : f2 P = some (4, [sg_r (P + 1), sg_i 0]) := (r2 _ (by omega)).trans ((sg_up_n (by omega)).trans aq1)
  have v2 : f2 (P + 1) = some (112, [sg_r (P + 2), sg_r (P + 17), sg_n, sg_n, sg_n, sg_n]) := (r2 _ (by omega)).trans ((sg_up_n (by omega)).trans vq1)
  refine sg_aast (pc := 33) g (dc_X1_init_30.1.1.2) v2 (show f2 (P + 32) = some (5, [sg_r (P + 33), sg_r (P + 34)]) from e2 0 (by decide)) (by decide) (by decide) (Or.inl ⟨by decide, _, rfl, Or.inl rfl⟩) (by omega) (Nat.le_of_ble_eq_true rfl) ?_
  try dsimp only
  have aq2 : sg_up f2 (P + 1) (112, [sg_r (P + 2), sg_r (P + 17), sg_r (P + 32), sg_n, sg_n, sg_n]) P = some (4, [sg_r (P + 1), sg_i 0]) := (sg_up_n (by omega)).trans a2
  have vq2 : sg_up f2 (P + 1) (112, [sg_r (P + 2), sg_r (P + 17), sg_r (P + 32), sg_n, sg_n, sg_n]) (P + 1) = some (112, [sg_r (P + 2), sg_r (P + 17), sg_r (P + 32), sg_n, sg_n, sg_n]) := sg_up_s
  first | refine sg_iincB (pc := 34) (dc_X1_init_30.1.2.1) rfl (by decide) (by decide) (by omega) (by omega) ?_ | refine sg_iinc (pc := 34) (dc_X1_init_30.1.2.1) rfl (by decide) (by decide) ?_
  refine sg_goto (pc := 37) (tgt := 15) (dc_X1_init_30.1.2.2) (by decide) ?_
  refine sg_iload_n (pc := 15) (j := 1) (dc_X1_init_0.2.1.1.1) rfl rfl ?_
  refine sg_bipush (pc := 16) (z := 6) (dc_X1_init_0.2.1.1.2) (by decide) ?_
  refine sg_icmp_ge (pc := 18) (tgt := 40) (dc_X1_init_0.2.1.2.1) (by decide) (fun cu => absurd cu (by omega)) (fun cu => ?_)
  refine sg_aload_n (pc := 21) (j := 0) (dc_X1_init_0.2.1.2.2) rfl rfl ?_
  refine sg_getf (pc := 22) g (dc_X1_init_0.2.2.1.1) fk_X1_11 aq2 rfl rfl ?_
  refine sg_iload_n (pc := 25) (j := 1) (dc_X1_init_0.2.2.1.2) rfl rfl ?_
  refine sg_new (pc := 26) g (dc_X1_init_0.2.2.2.1) nk_X1_9 (by first | exact Nat.le_of_ble_eq_true rfl | omega) (by first | exact Nat.le_of_ble_eq_true rfl | omega) ?_
  try dsimp only
  refine sg_dup (pc := 29) (dc_X1_init_0.2.2.2.2) rfl ?_
  refine sg_cI0 (pc := 30) (d' := d - 1) (mc' := 14) (ms' := 226) g (dc_X1_init_30.1.1.1) cb_X3_init rfl rfl ml_X1_17 mn_X3_init (Nat.le_of_ble_eq_true rfl) (by first | exact jl_d0 hd rfl | omega) (by first | exact Nat.le_of_ble_eq_true rfl | omega) (by first | exact Nat.le_of_ble_eq_true rfl | omega) ?_
  refine s_X3_init g (by first | exact jl_d1 hd rfl | omega) (by with_reducible exact sg_up_s) (fun f3 e3 r3 => ?_)
  refine sg_K0 ?_
  try dsimp only
  have a3 : f3 P = some (4, [sg_r (P + 1), sg_i 0]) := (r3 _ (by omega)).trans ((sg_up_n (by omega)).trans aq2)
  have v3 : f3 (P + 1) = some (112, [sg_r (P + 2), sg_r (P + 17), sg_r (P + 32), sg_n, sg_n, sg_n]) := (r3 _ (by omega)).trans ((sg_up_n (by omega)).trans vq2)
  refine sg_aast (pc := 33) g (dc_X1_init_30.1.1.2) v3 (show f3 (P + 47) = some (5, [sg_r (P + 48), sg_r (P + 49)]) from e3 0 (by decide)) (by decide) (by decide) (Or.inl ⟨by decide, _, rfl, Or.inl rfl⟩) (by omega) (Nat.le_of_ble_eq_true rfl) ?_
  try dsimp only
  have aq3 : sg_up f3 (P + 1) (112, [sg_r (P + 2), sg_r (P + 17), sg_r (P + 32), sg_r (P + 47), sg_n, sg_n]) P = some (4, [sg_r (P + 1), sg_i 0]) := (sg_up_n (by omega)).trans a3
  have vq3 : sg_up f3 (P + 1) (112, [sg_r (P + 2), sg_r (P + 17), sg_r (P + 32), sg_r (P + 47), sg_n, sg_n]) (P + 1) = some (112, [sg_r (P + 2), sg_r (P + 17), sg_r (P + 32), sg_r (P + 47), sg_n, sg_n]) := sg_up_s
  first | refine sg_iincB (pc := 34) (dc_X1_init_30.1.2.1) rfl (by decide) (by decide) (by omega) (by omega) ?_ | refine sg_iinc (pc := 34) (dc_X1_init_30.1.2.1) rfl (by decide) (by decide) ?_
  refine sg_goto (pc := 37) (tgt := 15) (dc_X1_init_30.1.2.2) (by decide) ?_
  refine sg_iload_n (pc := 15) (j := 1) (dc_X1_init_0.2.1.1.1) rfl rfl ?_
  refine sg_bipush (pc := 16) (z := 6) (dc_X1_init_0.2.1.1.2) (by decide) ?_
  refine sg_icmp_ge (pc := 18) (tgt := 40) (dc_X1_init_0.2.1.2.1) (by decide) (fun cu => absurd cu (by omega)) (fun cu => ?_)
  refine sg_aload_n (pc := 21) (j := 0) (dc_X1_init_0.2.1.2.2) rfl rfl ?_
  refine sg_getf (pc := 22) g (dc_X1_init_0.2.2.1.1) fk_X1_11 aq3 rfl rfl ?_
  refine sg_iload_n (pc := 25) (j := 1) (dc_X1_init_0.2.2.1.2) rfl rfl ?_
  refine sg_new (pc := 26) g (dc_X1_init_0.2.2.2.1) nk_X1_9 (by first | exact Nat.le_of_ble_eq_true rfl | omega) (by first | exact Nat.le_of_ble_eq_true rfl | omega) ?_
  try dsimp only
  refine sg_dup (pc := 29) (dc_X1_init_0.2.2.2.2) rfl ?_
  refine sg_cI0 (pc := 30) (d' := d - 1) (mc' := 14) (ms' := 226) g (dc_X1_init_30.1.1.1) cb_X3_init rfl rfl ml_X1_17 mn_X3_init (Nat.le_of_ble_eq_true rfl) (by first | exact jl_d0 hd rfl | omega) (by first | exact Nat.le_of_ble_eq_true rfl | omega) (by first | exact Nat.le_of_ble_eq_true rfl | omega) ?_
  refine s_X3_init g (by first | exact jl_d1 hd rfl | omega) (by with_reducible exact sg_up_s) (fun f4 e4 r4 => ?_)
  refine sg_K0 ?_
  try dsimp only
  have a4 : f4 P = some (4, [sg_r (P + 1), sg_i 0]) := (r4 _ (by omega)).trans ((sg_up_n (by omega)).trans aq3)
  have v4 : f4 (P + 1) = some (112, [sg_r (P + 2), sg_r (P + 17), sg_r (P + 32), sg_r (P + 47), sg_n, sg_n]) := (r4 _ (by omega)).trans ((sg_up_n (by omega)).trans vq3)
  refine sg_aast (pc := 33) g (dc_X1_init_30.1.1.2) v4 (show f4 (P + 62) = some (5, [sg_r (P + 63), sg_r (P + 64)]) from e4 0 (by decide)) (by decide) (by decide) (Or.inl ⟨by decide, _, rfl, Or.inl rfl⟩) (by omega) (Nat.le_of_ble_eq_true rfl) ?_
  try dsimp only
  have aq4 : sg_up f4 (P + 1) (112, [sg_r (P + 2), sg_r (P + 17), sg_r (P + 32), sg_r (P + 47), sg_r (P + 62), sg_n]) P = some (4, [sg_r (P + 1), sg_i 0]) := (sg_up_n (by omega)).trans a4
  have vq4 : sg_up f4 (P + 1) (112, [sg_r (P + 2), sg_r (P + 17), sg_r (P + 32), sg_r (P + 47), sg_r (P + 62), sg_n]) (P + 1) = some (112, [sg_r (P + 2), sg_r (P + 17), sg_r (P + 32), sg_r (P + 47), sg_r (P + 62), sg_n]) := sg_up_s
  first | refine sg_iincB (pc := 34) (dc_X1_init_30.1.2.1) rfl (by decide) (by decide) (by omega) (by omega) ?_ | refine sg_iinc (pc := 34) (dc_X1_init_30.1.2.1) rfl (by decide) (by decide) ?_
  refine sg_goto (pc := 37) (tgt := 15) (dc_X1_init_30.1.2.2) (by decide) ?_
  refine sg_iload_n (pc := 15) (j := 1) (dc_X1_init_0.2.1.1.1) rfl rfl ?_
  refine sg_bipush (pc := 16) (z := 6) (dc_X1_init_0.2.1.1.2) (by decide) ?_
  refine sg_icmp_ge (pc := 18) (tgt := 40) (dc_X1_init_0.2.1.2.1) (by decide) (fun cu => absurd cu (by omega)) (fun cu => ?_)
  refine sg_aload_n (pc := 21) (j := 0) (dc_X1_init_0.2.1.2.2) rfl rfl ?_
  refine sg_getf (pc := 22) g (dc_X1_init_0.2.2.1.1) fk_X1_11 aq4 rfl rfl ?_
  refine sg_iload_n (pc := 25) (j := 1) (dc_X1_init_0.2.2.1.2) rfl rfl ?_
  refine sg_new (pc := 26) g (dc_X1_init_0.2.2.2.1) nk_X1_9 (by first | exact Nat.le_of_ble_eq_true rfl | omega) (by first | exact Nat.le_of_ble_eq_true rfl | omega) ?_
  try dsimp only
  refine sg_dup (pc := 29) (dc_X1_init_0.2.2.2.2) rfl ?_
  refine sg_cI0 (pc := 30) (d' := d - 1) (mc' := 14) (ms' := 226) g (dc_X1_init_30.1.1.1) cb_X3_init rfl rfl ml_X1_17 mn_X3_init (Nat.le_of_ble_eq_true rfl) (by first | exact jl_d0 hd rfl | omega) (by first | exact Nat.le_of_ble_eq_true rfl | omega) (by first | exact Nat.le_of_ble_eq_true rfl | omega) ?_
  refine s_X3_init g (by first | exact jl_d1 hd rfl | omega) (by with_reducible exact sg_up_s) (fun f5 e5 r5 => ?_)
  refine sg_K0 ?_
  try dsimp only
  have a5 : f5 P = some (4, [sg_r (P + 1), sg_i 0]) := (r5 _ (by omega)).trans ((sg_up_n (by omega)).trans aq4)
  have v5 : f5 (P + 1) = some (112, [sg_r (P + 2), sg_r (P + 17), sg_r (P + 32), sg_r (P + 47), sg_r (P + 62), sg_n]) := (r5 _ (by omega)).trans ((sg_up_n (by omega)).trans vq4)
  refine sg_aast (pc := 33) g (dc_X1_init_30.1.1.2) v5 (show f5 (P + 77) = some (5, [sg_r (P + 78), sg_r (P + 79)]) from e5 0 (by decide)) (by decide) (by decide) (Or.inl ⟨by decide, _, rfl, Or.inl rfl⟩) (by omega) (Nat.le_of_ble_eq_true rfl) ?_
  try dsimp only
  have aq5 : sg_up f5 (P + 1) (112, [sg_r (P + 2), sg_r (P + 17), sg_r (P + 32), sg_r (P + 47), sg_r (P + 62), sg_r (P + 77)]) P = some (4, [sg_r (P + 1), sg_i 0]) := (sg_up_n (by omega)).trans a5
  have vq5 : sg_up f5 (P + 1) (112, [sg_r (P + 2), sg_r (P + 17), sg_r (P + 32), sg_r (P + 47), sg_r (P + 62), sg_r (P + 77)]) (P + 1) = some (112, [sg_r (P + 2), sg_r (P + 17), sg_r (P + 32), sg_r (P + 47), sg_r (P + 62), sg_r (P + 77)]) := sg_up_s
  first | refine sg_iincB (pc := 34) (dc_X1_init_30.1.2.1) rfl (by decide) (by decide) (by omega) (by omega) ?_ | refine sg_iinc (pc := 34) (dc_X1_init_30.1.2.1) rfl (by decide) (by decide) ?_
  refine sg_goto (pc := 37) (tgt := 15) (dc_X1_init_30.1.2.2) (by decide) ?_
  refine sg_iload_n (pc := 15) (j := 1) (dc_X1_init_0.2.1.1.1) rfl rfl ?_
  refine sg_bipush (pc := 16) (z := 6) (dc_X1_init_0.2.1.1.2) (by decide) ?_
  refine sg_icmp_ge (pc := 18) (tgt := 40) (dc_X1_init_0.2.1.2.1) (by decide) (fun cu => ?_) (fun cu => absurd cu (by omega))
  refine sg_aload_n (pc := 40) (j := 0) (dc_X1_init_30.2.1.1) rfl rfl ?_
  refine sg_iconst (pc := 41) (z := 0) (dc_X1_init_30.2.1.2) (by decide) ?_
  refine sg_putf (pc := 42) g (dc_X1_init_30.2.2.1) fk_X1_18 aq5 sg_ft_i ?_
  try dsimp only
  refine sg_vret (pc := 45) (dc_X1_init_30.2.2.2) rfl (by first | exact Nat.le_of_ble_eq_true rfl | omega) (by first | exact Nat.le_of_ble_eq_true rfl | omega) ?_
  refine hQ _ ?_ ?_ (fun k i hk hi => ?_) (fun q hq => ?_)
  · exact sg_up_s
  · exact (sg_up_n (by omega)).trans sg_up_s
  · rcases (show k = 0 ∨ k = 1 ∨ k = 2 ∨ k = 3 ∨ k = 4 ∨ k = 5 by omega) with rfl | rfl | rfl | rfl | rfl | rfl
    · exact (sg_up_n (by omega)).trans ((sg_up_n (by omega)).trans ((r5 _ (by omega)).trans ((sg_up_n (by omega)).trans ((sg_up_n (by omega)).trans ((r4 _ (by omega)).trans ((sg_up_n (by omega)).trans ((sg_up_n (by omega)).trans ((r3 _ (by omega)).trans ((sg_up_n (by omega)).trans ((sg_up_n (by omega)).trans ((r2 _ (by omega)).trans ((sg_up_n (by omega)).trans ((sg_up_n (by omega)).trans ((r1 _ (by omega)).trans ((sg_up_n (by omega)).trans ((sg_up_n (by omega)).trans (e0 i hi)))))))))))))))))
    · exact (sg_up_n (by omega)).trans ((sg_up_n (by omega)).trans ((r5 _ (by omega)).trans ((sg_up_n (by omega)).trans ((sg_up_n (by omega)).trans ((r4 _ (by omega)).trans ((sg_up_n (by omega)).trans ((sg_up_n (by omega)).trans ((r3 _ (by omega)).trans ((sg_up_n (by omega)).trans ((sg_up_n (by omega)).trans ((r2 _ (by omega)).trans ((sg_up_n (by omega)).trans ((sg_up_n (by omega)).trans (e1 i hi))))))))))))))
    · exact (sg_up_n (by omega)).trans ((sg_up_n (by omega)).trans ((r5 _ (by omega)).trans ((sg_up_n (by omega)).trans ((sg_up_n (by omega)).trans ((r4 _ (by omega)).trans ((sg_up_n (by omega)).trans ((sg_up_n (by omega)).trans ((r3 _ (by omega)).trans ((sg_up_n (by omega)).trans ((sg_up_n (by omega)).trans (e2 i hi)))))))))))
    · exact (sg_up_n (by omega)).trans ((sg_up_n (by omega)).trans ((r5 _ (by omega)).trans ((sg_up_n (by omega)).trans ((sg_up_n (by omega)).trans ((r4 _ (by omega)).trans ((sg_up_n (by omega)).trans ((sg_up_n (by omega)).trans (e3 i hi))))))))
    · exact (sg_up_n (by omega)).trans ((sg_up_n (by omega)).trans ((r5 _ (by omega)).trans ((sg_up_n (by omega)).trans ((sg_up_n (by omega)).trans (e4 i hi)))))
    · exact (sg_up_n (by omega)).trans ((sg_up_n (by omega)).trans (e5 i hi))
  · exact (sg_up_n (by omega)).trans ((sg_up_n (by omega)).trans ((r5 _ (by omega)).trans ((sg_up_n (by omega)).trans ((sg_up_n (by omega)).trans ((r4 _ (by omega)).trans ((sg_up_n (by omega)).trans ((sg_up_n (by omega)).trans ((r3 _ (by omega)).trans ((sg_up_n (by omega)).trans ((sg_up_n (by omega)).trans ((r2 _ (by omega)).trans ((sg_up_n (by omega)).trans ((sg_up_n (by omega)).trans ((r1 _ (by omega)).trans ((sg_up_n (by omega)).trans ((sg_up_n (by omega)).trans ((r0 _ (by omega)).trans ((sg_up_n (by omega)).trans ((sg_up_n (by omega)).trans ((sg_up_n (by omega)).trans rfl))))))))))))))))))))

theorem ck_sok {B s : Nat} {f : Nat → Option sg_E} (h : ∀ i, i < 15 → f (B + s + i) = (ck_se (B + s))[i]?) (hk : ∀ i, i < 15 → ck (s + i) = ck_st.getD i (9, 0)) : ∀ i, i < 15 → ∃ e, f (B + (s + i)) = some e ∧ ck_ok B (s + i) e := by
  intro i hi
  have h1 := h i hi
  have h2 := hk i hi
  rw [Nat.add_assoc] at h1
  rw [h1]
  rcases (show i = 0 ∨ i = 1 ∨ i = 2 ∨ i = 3 ∨ i = 4 ∨ i = 5 ∨ i = 6 ∨ i = 7 ∨ i = 8 ∨ i = 9 ∨ i = 10 ∨ i = 11 ∨ i = 12 ∨ i = 13 ∨ i = 14 by omega) with rfl | rfl | rfl | rfl | rfl | rfl | rfl | rfl | rfl | rfl | rfl | rfl | rfl | rfl | rfl
  all_goals refine ⟨_, rfl, ?_⟩
  all_goals (unfold ck_ok; rw [h2])
  all_goals (try (show _ = _; (repeat rw [Nat.add_assoc])))
  all_goals (try (refine ⟨0, by decide, by decide, ?_⟩; (repeat rw [Nat.add_assoc])))
  all_goals (try (exact ⟨List.replicate 40 0, by decide, fun z hz => by rw [List.eq_of_mem_replicate hz]; exact ck_vz, by simp [ck_z]⟩))
  all_goals (try (exact ⟨List.replicate 24 0, by decide, fun z hz => by rw [List.eq_of_mem_replicate hz]; exact ck_vz, by simp [ck_z]⟩))

/-- the object as it is made -/
def ck_zz (f : Nat → Option sg_E) (B : Nat) : Prop := (∀ j, j < 6 → f (B + (4 + 2 * j)) = some (3, [sg_r (B + (5 + 2 * j)), sg_i 0])) ∧ f B = some (6, [sg_r (B + 1), sg_r (B + 16), sg_r (B + 108), sg_i 0]) ∧ f (B + 16) = some (4, [sg_r (B + 17), sg_i 0]) ∧ f (B + 17) = some (112, [sg_r (B + 18), sg_r (B + 33), sg_r (B + 48), sg_r (B + 63), sg_r (B + 78), sg_r (B + 93)])

theorem ck_blk : ∀ k, k < 6 → ∀ j, j < 15 → ck (18 + 15 * k + j) = ck_st.getD j (9, 0) := by decide +kernel

set_option maxRecDepth 100000 in
set_option maxHeartbeats 400000 in
theorem s_X5_init {w : sg_W} {Q : sg_O → sg_H → Prop} {f : Nat → Option sg_E} (g : sg_G w) {d : Nat} (hd : 6 ≤ d) {B : Nat} (hb : f B = some (6, [sg_n, sg_n, sg_n, sg_i 0])) (hQ : ∀ f' : Nat → Option sg_E, ck_X (B + 110, f') B → ck_zz f' B → (∀ q, (q < B ∨ B + 110 ≤ q) → f' q = f q) → Q (.inl none) (B + 110, f')) : sg_C w mi_X5_init d 109 1630 [sg_r B] (B + 1, f) Q := by
  refine sg_of pn_X5 (Nat.le_of_ble_eq_true rfl) ?_
  refine sg_aload_n (pc := 0) (j := 0) (dc_X5_init_0.1.1.1.1) rfl rfl ?_
  refine sg_objInit (pc := 1) g (dc_X5_init_0.1.1.1.2) mo_X5_1 mo_in mo_co (Nat.le_of_ble_eq_true rfl) (by omega) ?_
  refine sg_aload_n (pc := 4) (j := 0) (dc_X5_init_0.1.1.2.1) rfl rfl ?_
  refine sg_new (pc := 5) g (dc_X5_init_0.1.1.2.2) nk_X5_7 (by first | exact Nat.le_of_ble_eq_true rfl | omega) (by first | exact Nat.le_of_ble_eq_true rfl | omega) ?_
  try dsimp only
  refine sg_dup (pc := 8) (dc_X5_init_0.1.2.1.1) rfl ?_
  refine sg_cI0 (pc := 9) (d' := d - 1) (mc' := 14) (ms' := 226) g (dc_X5_init_0.1.2.1.2) cb_X3_init rfl rfl ml_X5_9 mn_X3_init (Nat.le_of_ble_eq_true rfl) (by first | exact jl_d0 hd rfl | omega) (by first | exact Nat.le_of_ble_eq_true rfl | omega) (by first | exact Nat.le_of_ble_eq_true rfl | omega) ?_
  refine s_X3_init g (by first | exact jl_d1 hd rfl | omega) (by with_reducible exact sg_up_s) (fun f1 e1 r1 => ?_)
  refine sg_K0 ?_
  try dsimp only
  have b1 : f1 B = some (6, [sg_n, sg_n, sg_n, sg_i 0]) := (r1 _ (by omega)).trans ((sg_up_n (by omega)).trans hb)
  refine sg_putF (pc := 12) g (dc_X5_init_0.1.2.2.1) fk_X5_10 rfl b1 sg_ft_o ?_
  try dsimp only
  refine sg_aload_n (pc := 15) (j := 0) (dc_X5_init_0.1.2.2.2) rfl rfl ?_
  refine sg_new (pc := 16) g (dc_X5_init_0.2.1.1.1) nk_X5_16 (by first | exact Nat.le_of_ble_eq_true rfl | omega) (by first | exact Nat.le_of_ble_eq_true rfl | omega) ?_
  try dsimp only
  refine sg_dup (pc := 19) (dc_X5_init_0.2.1.1.2) rfl ?_
  have b2 : sg_up f1 B (6, [sg_r (B + 1), sg_n, sg_n, sg_i 0]) B = some (6, [sg_r (B + 1), sg_n, sg_n, sg_i 0]) := sg_up_s
  refine sg_cI0 (pc := 20) (d' := d - 1) (mc' := 91) (ms' := 1374) g (dc_X5_init_0.2.1.2.1) cb_X1_init rfl rfl ml_X5_18 mn_X1_init (Nat.le_of_ble_eq_true rfl) (by first | exact jl_d0 hd rfl | omega) (by first | exact Nat.le_of_ble_eq_true rfl | omega) (by first | exact Nat.le_of_ble_eq_true rfl | omega) ?_
  refine s_X1_init g (by first | exact jl_d1 hd rfl | omega) (by with_reducible exact sg_up_s) (fun f2 p2 q2 e2 r2 => ?_)
  refine sg_K0 ?_
  try dsimp only
  have b3 : f2 B = some (6, [sg_r (B + 1), sg_n, sg_n, sg_i 0]) := (r2 _ (by omega)).trans ((sg_up_n (by omega)).trans b2)
  refine sg_putF (pc := 23) g (dc_X5_init_0.2.1.2.2) fk_X5_19 rfl b3 sg_ft_o ?_
  try dsimp only
  refine sg_aload_n (pc := 26) (j := 0) (dc_X5_init_0.2.2.1.1) rfl rfl ?_
  refine sg_new (pc := 27) g (dc_X5_init_0.2.2.1.2) nk_X5_23 (by first | exact Nat.le_of_ble_eq_true rfl | omega) (by first | exact Nat.le_of_ble_eq_true rfl | omega) ?_
  try dsimp only
  refine sg_dup (pc := 30) (dc_X5_init_0.2.2.2.1) rfl ?_
  refine sg_bipush (pc := 31) (z := 24) (dc_X5_init_0.2.2.2.2) (by decide) ?_
  refine sg_cI1 (pc := 33) (d' := d - 1) (mc' := 1) (ms' := 24) g (dc_X5_init_33.1.1.1) cb_X0_init rfl rfl ml_X5_25 mn_X0_init (Nat.le_of_ble_eq_true rfl) (by first | exact jl_d0 hd rfl | omega) (by first | exact Nat.le_of_ble_eq_true rfl | omega) (by first | exact Nat.le_of_ble_eq_true rfl | omega) ?_
  refine s_X0_init (N := 24) g (by first | exact jl_d1 hd rfl | omega) rfl (by decide) (by with_reducible exact sg_up_s) rfl ?_
  refine sg_K0 ?_
  try dsimp only
  refine sg_putF (pc := 36) g (dc_X5_init_33.1.1.2) fk_X5_28 rfl ((sg_up_n (by omega)).trans ((sg_up_n (by omega)).trans ((sg_up_n (by omega)).trans ((sg_up_n (by omega)).trans (show sg_up f2 B (6, [sg_r (B + 1), sg_r (B + 16), sg_n, sg_i 0]) B = some (6, [sg_r (B + 1), sg_r (B + 16), sg_n, sg_i 0]) from sg_up_s))))) sg_ft_o ?_
  try dsimp only
  refine sg_aload_n (pc := 39) (j := 0) (dc_X5_init_33.1.2.1) rfl rfl ?_
  refine sg_iconst (pc := 40) (z := 0) (dc_X5_init_33.1.2.2) (by decide) ?_
  refine sg_putf (pc := 41) g (dc_X5_init_33.2.1.1) fk_X5_32 sg_up_s sg_ft_i ?_
  try dsimp only
  refine sg_vret (pc := 44) (dc_X5_init_33.2.1.2) rfl (by first | exact Nat.le_of_ble_eq_true rfl | omega) (by first | exact Nat.le_of_ble_eq_true rfl | omega) ?_
  refine hQ _ (fun i hi => ?_) ⟨fun j hj => ?_, ?_, ?_, ?_⟩ (fun q hq => ?_)
  · by_cases c0 : i = 0
    · subst c0
      exact ⟨(6, [sg_r (B + 1), sg_r (B + 16), sg_r (B + 108), sg_i 0]), sg_up_s, 0, rfl⟩
    by_cases c1 : i < 16
    · have h1 := ck_sok (B := B) (s := 1) (f := f1) (fun j hj => e1 j hj) (by decide +kernel) (i - 1) (by omega)
      rw [show 1 + (i - 1) = i by omega] at h1
      obtain ⟨x, hx, ho⟩ := h1
      exact ⟨x, (sg_up_n (by omega)).trans ((sg_up_n (by omega)).trans ((sg_up_n (by omega)).trans ((sg_up_n (by omega)).trans ((sg_up_n (by omega)).trans ((sg_up_n (by omega)).trans ((sg_up_n (by omega)).trans ((r2 _ (by omega)).trans ((sg_up_n (by omega)).trans ((sg_up_n (by omega)).trans (hx)))))))))), ho⟩
    by_cases c2 : i = 16
    · subst c2
      exact ⟨_, (sg_up_n (by omega)).trans ((sg_up_n (by omega)).trans ((sg_up_n (by omega)).trans ((sg_up_n (by omega)).trans ((sg_up_n (by omega)).trans ((sg_up_n (by omega)).trans ((sg_up_n (by omega)).trans (p2))))))), 0, rfl⟩
    by_cases c3 : i = 17
    · subst c3
      exact ⟨_, (sg_up_n (by omega)).trans ((sg_up_n (by omega)).trans ((sg_up_n (by omega)).trans ((sg_up_n (by omega)).trans ((sg_up_n (by omega)).trans ((sg_up_n (by omega)).trans ((sg_up_n (by omega)).trans (q2))))))), [18, 33, 48, 63, 78, 93], rfl, by decide +kernel, rfl⟩
    by_cases c4 : i < 108
    · have hk : (i - 18) / 15 < 6 := by omega
      have h4 := ck_sok (B := B) (s := 18 + 15 * ((i - 18) / 15)) (f := f2) (fun j hj => by have := e2 _ j hk hj; rw [show B + 1 + 15 + 2 + 15 * ((i - 18) / 15) = B + (18 + 15 * ((i - 18) / 15)) by omega] at this; exact this) (ck_blk _ hk) ((i - 18) % 15) (by omega)
      rw [show 18 + 15 * ((i - 18) / 15) + (i - 18) % 15 = i by omega] at h4
      obtain ⟨x, hx, ho⟩ := h4
      exact ⟨x, (sg_up_n (by omega)).trans ((sg_up_n (by omega)).trans ((sg_up_n (by omega)).trans ((sg_up_n (by omega)).trans ((sg_up_n (by omega)).trans ((sg_up_n (by omega)).trans ((sg_up_n (by omega)).trans (hx))))))), ho⟩
    by_cases c5 : i = 108
    · subst c5
      exact ⟨(3, [sg_r (B + 109), sg_i 0]), (sg_up_n (by omega)).trans ((sg_up_n (by omega)).trans (sg_up_s)), 0, by decide, by decide, rfl⟩
    have c6 : i = 109 := by omega
    subst c6
    exact ⟨(100, ck_z 24), (sg_up_n (by omega)).trans ((sg_up_n (by omega)).trans ((sg_up_n (by omega)).trans ((sg_up_n (by omega)).trans (sg_up_s)))), List.replicate 24 0, by decide, fun z hz => by rw [List.eq_of_mem_replicate hz]; exact ck_vz, by simp [ck_z]⟩
  · rcases (show j = 0 ∨ j = 1 ∨ j = 2 ∨ j = 3 ∨ j = 4 ∨ j = 5 by omega) with rfl | rfl | rfl | rfl | rfl | rfl
    · have h1 : f1 (B + 4) = some (3, [sg_r (B + 5), sg_i 0]) := e1 3 (by decide)
      show _ = some (3, [sg_r (B + 5), sg_i 0])
      exact (sg_up_n (by omega)).trans ((sg_up_n (by omega)).trans ((sg_up_n (by omega)).trans ((sg_up_n (by omega)).trans ((sg_up_n (by omega)).trans ((sg_up_n (by omega)).trans ((sg_up_n (by omega)).trans ((r2 _ (by omega)).trans ((sg_up_n (by omega)).trans ((sg_up_n (by omega)).trans (h1))))))))))
    · have h1 : f1 (B + 6) = some (3, [sg_r (B + 7), sg_i 0]) := e1 5 (by decide)
      show _ = some (3, [sg_r (B + 7), sg_i 0])
      exact (sg_up_n (by omega)).trans ((sg_up_n (by omega)).trans ((sg_up_n (by omega)).trans ((sg_up_n (by omega)).trans ((sg_up_n (by omega)).trans ((sg_up_n (by omega)).trans ((sg_up_n (by omega)).trans ((r2 _ (by omega)).trans ((sg_up_n (by omega)).trans ((sg_up_n (by omega)).trans (h1))))))))))
    · have h1 : f1 (B + 8) = some (3, [sg_r (B + 9), sg_i 0]) := e1 7 (by decide)
      show _ = some (3, [sg_r (B + 9), sg_i 0])
      exact (sg_up_n (by omega)).trans ((sg_up_n (by omega)).trans ((sg_up_n (by omega)).trans ((sg_up_n (by omega)).trans ((sg_up_n (by omega)).trans ((sg_up_n (by omega)).trans ((sg_up_n (by omega)).trans ((r2 _ (by omega)).trans ((sg_up_n (by omega)).trans ((sg_up_n (by omega)).trans (h1))))))))))
    · have h1 : f1 (B + 10) = some (3, [sg_r (B + 11), sg_i 0]) := e1 9 (by decide)
      show _ = some (3, [sg_r (B + 11), sg_i 0])
      exact (sg_up_n (by omega)).trans ((sg_up_n (by omega)).trans ((sg_up_n (by omega)).trans ((sg_up_n (by omega)).trans ((sg_up_n (by omega)).trans ((sg_up_n (by omega)).trans ((sg_up_n (by omega)).trans ((r2 _ (by omega)).trans ((sg_up_n (by omega)).trans ((sg_up_n (by omega)).trans (h1))))))))))
    · have h1 : f1 (B + 12) = some (3, [sg_r (B + 13), sg_i 0]) := e1 11 (by decide)
      show _ = some (3, [sg_r (B + 13), sg_i 0])
      exact (sg_up_n (by omega)).trans ((sg_up_n (by omega)).trans ((sg_up_n (by omega)).trans ((sg_up_n (by omega)).trans ((sg_up_n (by omega)).trans ((sg_up_n (by omega)).trans ((sg_up_n (by omega)).trans ((r2 _ (by omega)).trans ((sg_up_n (by omega)).trans ((sg_up_n (by omega)).trans (h1))))))))))
    · have h1 : f1 (B + 14) = some (3, [sg_r (B + 15), sg_i 0]) := e1 13 (by decide)
      show _ = some (3, [sg_r (B + 15), sg_i 0])
      exact (sg_up_n (by omega)).trans ((sg_up_n (by omega)).trans ((sg_up_n (by omega)).trans ((sg_up_n (by omega)).trans ((sg_up_n (by omega)).trans ((sg_up_n (by omega)).trans ((sg_up_n (by omega)).trans ((r2 _ (by omega)).trans ((sg_up_n (by omega)).trans ((sg_up_n (by omega)).trans (h1))))))))))
  · exact sg_up_s
  · exact (sg_up_n (by omega)).trans ((sg_up_n (by omega)).trans ((sg_up_n (by omega)).trans ((sg_up_n (by omega)).trans ((sg_up_n (by omega)).trans ((sg_up_n (by omega)).trans ((sg_up_n (by omega)).trans (p2)))))))
  · exact (sg_up_n (by omega)).trans ((sg_up_n (by omega)).trans ((sg_up_n (by omega)).trans ((sg_up_n (by omega)).trans ((sg_up_n (by omega)).trans ((sg_up_n (by omega)).trans ((sg_up_n (by omega)).trans (q2)))))))
  · exact (sg_up_n (by omega)).trans ((sg_up_n (by omega)).trans ((sg_up_n (by omega)).trans ((sg_up_n (by omega)).trans ((sg_up_n (by omega)).trans ((sg_up_n (by omega)).trans ((sg_up_n (by omega)).trans ((r2 _ (by omega)).trans ((sg_up_n (by omega)).trans ((sg_up_n (by omega)).trans ((r1 _ (by omega)).trans ((sg_up_n (by omega)).trans rfl)))))))))))

