set_option maxRecDepth 100000 in
theorem s_X5_house_N {w : sg_W} {Q : sg_O → sg_H → Prop} {h : sg_H} (g : sg_G w) {d : Nat} (hd : 14 ≤ d) {B : Nat} (hx : ck_X h B) {what : Int} (hv : ¬ (what < 0 ∨ 3 < what)) (hQ : ∀ v : Int, Q (.inl (some (sg_i v))) h) : sg_C w mi_X5_house d 0 0 [sg_r B, sg_i what] h Q := by
  refine sg_of pn_X5 (Nat.le_of_ble_eq_true rfl) ?_
  have y0 := ck_Y0 hx
  refine sg_iload_n (pc := 0) (j := 1) (dc_X5_house_0.1.1.1.1) rfl rfl ?_
  by_cases cs : what < 0 ∨ 3 < what
  · refine sg_tsOut (pc := 1) (tgt := 61) (dc_X5_house_0.1.1.1.2) cs (by decide) ?_
    exfalso; omega
  · rcases (show what = 0 ∨ what = 1 ∨ what = 2 ∨ what = 3 by omega) with rfl | rfl | rfl | rfl
    · refine sg_tsIn (pc := 1) (tgt := 32) (dc_X5_house_0.1.1.1.2) (by omega) (by omega) rfl (by decide) ?_
      refine sg_aload_n (pc := 32) (j := 0) (dc_X5_house_0.1.1.2.1) rfl rfl ?_
      refine ck_gob (pc := 33) g (dc_X5_house_0.1.1.2.2) fk_X5_10 (by assumption) (fun _ => rfl) ?_
      refine sg_cE0 (pc := 36) (d' := d - 1) (mc' := 0) (ms' := 0) 5 g (dc_X5_house_0.1.2.1.1) cb_X3_howManySigns ml_X5_272 mn_X3_howManySigns rfl mv_X3_howManySigns (Nat.le_of_ble_eq_true rfl) (ck_sc (by assumption) (by first | assumption | exact ck_now)) (Nat.le_of_ble_eq_true rfl) (by first | exact jl_d0 hd rfl | omega) (by first | exact Nat.le_of_ble_eq_true rfl | omega) (by first | exact Nat.le_of_ble_eq_true rfl | omega) ?_
      refine s_X3_howManySigns g (by first | exact jl_d1 hd rfl | omega) (by assumption) (by first | assumption | exact ck_now) (fun z36 => sg_K1 ?_)
      refine sg_iret (pc := 39) (dc_X5_house_0.1.2.1.2) rfl (by first | exact Nat.le_of_ble_eq_true rfl | omega) (by first | exact Nat.le_of_ble_eq_true rfl | omega) ?_
      exact hQ _
    · refine sg_tsIn (pc := 1) (tgt := 40) (dc_X5_house_0.1.1.1.2) (by omega) (by omega) rfl (by decide) ?_
      refine sg_aload_n (pc := 40) (j := 0) (dc_X5_house_0.1.2.2.1) rfl rfl ?_
      refine ck_gob (pc := 41) g (dc_X5_house_0.1.2.2.2) fk_X5_10 (by assumption) (fun _ => rfl) ?_
      refine sg_cE0 (pc := 44) (d' := d - 1) (mc' := 0) (ms' := 0) 5 g (dc_X5_house_0.2.1.1.1) cb_X3_howManyUnits ml_X5_275 mn_X3_howManyUnits rfl mv_X3_howManyUnits (Nat.le_of_ble_eq_true rfl) (ck_sc (by assumption) (by first | assumption | exact ck_now)) (Nat.le_of_ble_eq_true rfl) (by first | exact jl_d0 hd rfl | omega) (by first | exact Nat.le_of_ble_eq_true rfl | omega) (by first | exact Nat.le_of_ble_eq_true rfl | omega) ?_
      refine s_X3_howManyUnits g (by first | exact jl_d1 hd rfl | omega) (by assumption) (by first | assumption | exact ck_now) (fun z44 => sg_K1 ?_)
      refine sg_iret (pc := 47) (dc_X5_house_0.2.1.1.2) rfl (by first | exact Nat.le_of_ble_eq_true rfl | omega) (by first | exact Nat.le_of_ble_eq_true rfl | omega) ?_
      exact hQ _
    · refine sg_tsIn (pc := 1) (tgt := 48) (dc_X5_house_0.1.1.1.2) (by omega) (by omega) rfl (by decide) ?_
      refine sg_aload_n (pc := 48) (j := 0) (dc_X5_house_0.2.1.2.1) rfl rfl ?_
      refine ck_gob (pc := 49) g (dc_X5_house_0.2.1.2.2) fk_X5_19 (by assumption) (fun _ => rfl) ?_
      refine sg_cE0 (pc := 52) (d' := d - 1) (mc' := 0) (ms' := 0) 4 g (dc_X5_house_0.2.2.1.1) cb_X1_size ml_X5_183 mn_X1_size rfl mv_X1_size (Nat.le_of_ble_eq_true rfl) (ck_pc (by assumption)) (Nat.le_of_ble_eq_true rfl) (by first | exact jl_d0 hd rfl | omega) (by first | exact Nat.le_of_ble_eq_true rfl | omega) (by first | exact Nat.le_of_ble_eq_true rfl | omega) ?_
      refine s_X1_size g (by first | exact jl_d1 hd rfl | omega) (by assumption) (fun z52 => sg_K1 ?_)
      refine sg_iret (pc := 55) (dc_X5_house_0.2.2.1.2) rfl (by first | exact Nat.le_of_ble_eq_true rfl | omega) (by first | exact Nat.le_of_ble_eq_true rfl | omega) ?_
      exact hQ _
    · refine sg_tsIn (pc := 1) (tgt := 56) (dc_X5_house_0.1.1.1.2) (by omega) (by omega) rfl (by decide) ?_
      refine sg_aload_n (pc := 56) (j := 0) (dc_X5_house_0.2.2.2.1) rfl rfl ?_
      refine ck_gkn (pc := 57) g (dc_X5_house_0.2.2.2.2) fk_X5_32 hx (fun z hz => ?_)
      refine sg_iret (pc := 60) (dc_X5_house_60.1.1.1) rfl (by first | exact Nat.le_of_ble_eq_true rfl | omega) (by first | exact Nat.le_of_ble_eq_true rfl | omega) ?_
      exact hQ _

