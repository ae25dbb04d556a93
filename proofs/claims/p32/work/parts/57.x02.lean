set_option maxRecDepth 100000 in
theorem s_infl {w : sg_W} {Q : sg_O → sg_H → Prop} {h : sg_H} (g : sg_G w) {d : Nat} (hd : 2 ≤ d) (hJ : jz w) {b v : Nat} {c x : Int} (hb : h.2 b = some (1, [sg_r v, sg_i 0, sg_i x, sg_i c])) {a t u : Nat} {ps : List sg_V} (ha : h.2 a = some (t, sg_r u :: sg_i 0 :: ps)) (ht : t % 200 = 0) (hQ : Q (.inl none) h) : sg_C w mi_J5_inflateIfNeededFor_a7421 d 0 0 [sg_r b, sg_r a] h Q := by
  refine sg_of pn_J5 (Nat.le_of_ble_eq_true rfl) ?_
  refine sg_gets (v := sg_i 1) (pc := 0) g (dc_J5_inflateIfNeededFor_a7421_0.1.1.1.1) hJ ⟨1, rfl, rfl⟩ kl_J5_18 ?_
  refine sg_if_eq (pc := 3) (tgt := 21) (dc_J5_inflateIfNeededFor_a7421_0.1.1.1.2) (by decide) (fun cu => absurd cu (by omega)) (fun cu => ?_)
  refine sg_aload_n (pc := 6) (j := 0) (dc_J5_inflateIfNeededFor_a7421_0.1.1.2.1) rfl rfl ?_
  refine sg_getf (pc := 7) g (dc_J5_inflateIfNeededFor_a7421_0.1.1.2.2) fk_J5_22 hb rfl rfl ?_
  refine sg_aload_n (pc := 10) (j := 1) (dc_J5_inflateIfNeededFor_a7421_0.1.2.1.1) rfl rfl ?_
  refine sg_callV (q := (RJ0, TJ0, 4)) (as := []) (d' := d - 1) (mc' := 0) (ms' := 0) (pc := 11) g (dc_J5_inflateIfNeededFor_a7421_0.1.2.1.2) cb_J0_coder_7d493 ml_J5_40 mn_J0_coder_7d493 mv_J0_coder_7d493 (by rw [ht]; rfl) (by omega) rfl ha rfl (Nat.le_of_ble_eq_true rfl) (by omega) (by omega) (by omega) ?_
  refine s_coder g (by first | exact jl_d1 hd rfl | omega) hJ ha ht ?_
  refine sg_K1 ?_
  refine sg_icmp_eq (pc := 14) (tgt := 21) (dc_J5_inflateIfNeededFor_a7421_0.1.2.2.1) (by decide) (fun cu => ?_) (fun cu => absurd cu (by omega))
  refine sg_vret (pc := 21) (dc_J5_inflateIfNeededFor_a7421_0.2.1.1.2) rfl (by first | exact Nat.le_of_ble_eq_true rfl | omega) (by first | exact Nat.le_of_ble_eq_true rfl | omega) ?_
  exact hQ

set_option maxRecDepth 100000 in
theorem s_put {w : sg_W} {Q : sg_O → sg_H → Prop} {h : sg_H} (g : sg_G w) {d : Nat} (hd : 3 ≤ d) (hJ : jz w) {b v : Nat} {c x : Int} (hb : h.2 b = some (1, [sg_r v, sg_i 0, sg_i x, sg_i c])) {a t u : Nat} {ps : List sg_V} (ha : h.2 a = some (t, sg_r u :: sg_i 0 :: ps)) (ht : t % 200 = 0) {tu : Nat} {us : List sg_V} (hu : h.2 u = some (tu, us)) (htu : tu % 200 = 102) (hul : us.length ≤ 1000) (huy : jy us) {xs : List sg_V} (hv : h.2 v = some (102, xs)) (hl : xs.length ≤ 2000) {z : Int} (z0 : 0 ≤ z) (z1 : z + (us.length : Int) ≤ (xs.length : Int)) (hQ : Q (.inl none) (h.1, sg_up h.2 v (102, sg_cp us xs 0 z.toNat us.length))) : sg_C w mi_J5_putStringAt_47b60 d 0 0 [sg_r b, sg_i z, sg_r a] h Q := by
  refine sg_of pn_J5 (Nat.le_of_ble_eq_true rfl) ?_
  refine sg_aload_n (pc := 0) (j := 0) (dc_J5_putStringAt_47b60_0.1.1.1.1) rfl rfl ?_
  refine sg_aload_n (pc := 1) (j := 2) (dc_J5_putStringAt_47b60_0.1.1.1.2) rfl rfl ?_
  refine sg_cP1 (pc := 2) (d' := d - 1) (mc' := 0) (ms' := 0) g (dc_J5_putStringAt_47b60_0.1.1.2.1) cb_J5_inflateIfNeededFor_a7421 ml_J5_397 mn_J5_inflateIfNeededFor_a7421 (sl_J5_inflateIfNeededFor_a7421 g) hb (Nat.le_of_ble_eq_true rfl) rfl (Nat.le_of_ble_eq_true rfl) (by first | exact jl_d0 hd rfl | omega) (by first | exact Nat.le_of_ble_eq_true rfl | omega) (by first | exact Nat.le_of_ble_eq_true rfl | omega) ?_
  refine s_infl g (by first | exact jl_d1 hd rfl | omega) hJ hb ha ht ?_
  refine sg_K0 ?_
  refine sg_aload_n (pc := 5) (j := 2) (dc_J5_putStringAt_47b60_0.1.1.2.2) rfl rfl ?_
  refine sg_aload_n (pc := 6) (j := 0) (dc_J5_putStringAt_47b60_0.1.2.1.1) rfl rfl ?_
  refine sg_getf (pc := 7) g (dc_J5_putStringAt_47b60_0.1.2.1.2) fk_J5_15 hb rfl rfl ?_
  refine sg_iload_n (pc := 10) (j := 1) (dc_J5_putStringAt_47b60_0.1.2.2.1) rfl rfl ?_
  refine sg_aload_n (pc := 11) (j := 0) (dc_J5_putStringAt_47b60_0.1.2.2.2) rfl rfl ?_
  refine sg_getf (pc := 12) g (dc_J5_putStringAt_47b60_0.2.1.1.1) fk_J5_22 hb rfl rfl ?_
  refine sg_callV (q := (RJ0, TJ0, 4)) (as := [sg_r v, sg_i z, sg_i 0]) (d' := d - 1) (mc' := 0) (ms' := 0) (pc := 15) g (dc_J5_putStringAt_47b60_0.2.1.1.2) cb_J0_getBytes_840e7 ml_J5_399 mn_J0_getBytes_840e7 mv_J0_getBytes_840e7 (by rw [ht]; rfl) (by omega) rfl ha rfl (Nat.le_of_ble_eq_true rfl) (by omega) (by omega) (by omega) ?_
  refine s_getBytes g (by first | exact jl_d1 hd rfl | omega) hJ ha ht hu htu hul huy hv z0 z1 hl ?_
  refine sg_K0 ?_
  try dsimp only
  refine sg_vret (pc := 18) (dc_J5_putStringAt_47b60_0.2.1.2.1) rfl (by first | exact Nat.le_of_ble_eq_true rfl | omega) (by first | exact Nat.le_of_ble_eq_true rfl | omega) ?_
  exact hQ

