set_option maxRecDepth 100000 in
theorem s_X3_howManySigns {w : sg_W} {Q : sg_O → sg_H → Prop} {h : sg_H} (g : sg_G w) {d : Nat} (hd : 2 ≤ d) {B a : Nat} (hx : ck_X h B) (hs : ck_S B a) (hQ : ∀ z : Int, Q (.inl (some (sg_i z))) h) : sg_C w mi_X3_howManySigns d 0 0 [sg_r a] h Q := by
  refine sg_of pn_X3 (Nat.le_of_ble_eq_true rfl) ?_
  obtain ⟨hS0, hS1, hS2⟩ := ck_sl hx hs
  refine sg_iconst (pc := 0) (z := 0) (dc_X3_howManySigns_0.1.1.1.1) (by decide) ?_
  refine sg_istore_n (pc := 1) (j := 1) (dc_X3_howManySigns_0.1.1.1.2) rfl (by decide) ?_
  refine sg_iconst (pc := 2) (z := 0) (dc_X3_howManySigns_0.1.1.2.1) (by decide) ?_
  refine sg_istore_n (pc := 3) (j := 2) (dc_X3_howManySigns_0.1.1.2.2) rfl (by decide) ?_
  have loop4 : ∀ (N : Nat) (p s : Int), (0 ≤ p) → (4 - p).toNat < N → sg_R w mi_X3_howManySigns d 0 0 Q 4 [(2, sg_i p), (1, sg_i s), (0, sg_r a)] [] h 0 0 := by
    intro N
    induction N with
    | zero => intro p s p0 hm; exact absurd hm (Nat.not_lt_zero _)
    | succ N ih =>
      intro p s p0 hm
      refine sg_iload_n (pc := 4) (j := 2) (dc_X3_howManySigns_0.1.2.1.1) rfl rfl ?_
      refine sg_iconst (pc := 5) (z := 4) (dc_X3_howManySigns_0.1.2.1.2) (by decide) ?_
      refine sg_icmp_ge (pc := 6) (tgt := 27) (dc_X3_howManySigns_0.1.2.2.1) (by decide) (fun c6 => ?_) (fun c6 => ?_)
      · refine sg_iload_n (pc := 27) (j := 1) (dc_X3_howManySigns_24.1.2) rfl rfl ?_
        refine sg_iret (pc := 28) (dc_X3_howManySigns_24.2.1) rfl (by first | exact Nat.le_of_ble_eq_true rfl | omega) (by first | exact Nat.le_of_ble_eq_true rfl | omega) ?_
        exact hQ _
      · refine sg_iload_n (pc := 9) (j := 1) (dc_X3_howManySigns_0.1.2.2.2) rfl rfl ?_
        refine sg_aload_n (pc := 10) (j := 0) (dc_X3_howManySigns_0.2.1.1.1) rfl rfl ?_
        refine sg_getf (pc := 11) g (dc_X3_howManySigns_0.2.1.1.2) fk_X3_11 hS0 rfl rfl ?_
        refine sg_iload_n (pc := 14) (j := 2) (dc_X3_howManySigns_0.2.1.2.1) rfl rfl ?_
        obtain ⟨b15, e15, l15⟩ := ck_row (p := p) hs (by omega) (by omega)
        refine sg_aald (pc := 15) (dc_X3_howManySigns_0.2.1.2.2) hS1 (by decide) (by omega) e15 ?_
        refine sg_cE0 (pc := 16) (d' := d - 1) (mc' := 0) (ms' := 0) 3 g (dc_X3_howManySigns_0.2.2.1.1) cb_X0_size ml_X3_23 mn_X0_size rfl mv_X0_size (Nat.le_of_ble_eq_true rfl) (ck_lc (by assumption) (by first | assumption | exact ck_rev)) (Nat.le_of_ble_eq_true rfl) (by first | exact jl_d0 hd rfl | omega) (by first | exact Nat.le_of_ble_eq_true rfl | omega) (by first | exact Nat.le_of_ble_eq_true rfl | omega) ?_
        refine s_X0_size g (by first | exact jl_d1 hd rfl | omega) (by assumption) (by first | assumption | exact ck_rev) (fun z16 l16 u16 N16 => sg_K1 ?_)
        first | refine sg_iaddB (pc := 19) (dc_X3_howManySigns_0.2.2.1.2) (by omega) (by omega) ?_ | refine sg_iadd (pc := 19) (dc_X3_howManySigns_0.2.2.1.2) ?_
        refine sg_istore_n (pc := 20) (j := 1) (dc_X3_howManySigns_0.2.2.2.1) rfl (by decide) ?_
        first | refine sg_iincB (pc := 21) (dc_X3_howManySigns_0.2.2.2.2) rfl (by decide) (by decide) (by omega) (by omega) ?_ | refine sg_iinc (pc := 21) (dc_X3_howManySigns_0.2.2.2.2) rfl (by decide) (by decide) ?_
        refine sg_goto (pc := 24) (tgt := 4) (dc_X3_howManySigns_24.1.1) (by decide) ?_
        refine sg_lsub (lv' := [(2, _), (1, _), (0, _)]) ⟨rfl, rfl, rfl, trivial⟩ ?_
        exact ih _ _ (by omega) (by first | exact jl_m1 hm (by omega) | exact jl_m2 hm (by omega) | omega)
  refine sg_lsub (lv' := [(2, _), (1, _), (0, _)]) ⟨rfl, rfl, rfl, trivial⟩ ?_
  exact loop4 _ _ _ (by omega) (Nat.lt_succ_self _)

