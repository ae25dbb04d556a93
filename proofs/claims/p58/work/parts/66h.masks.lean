section
variable {w : sg_W} {mi : sg_M} {d mc ms : Nat} {Q : sg_O → sg_H → Prop} {pc : Nat} {lv : List (Nat × sg_V)} {st : List sg_V} {h h0 : sg_H} {k n M : Nat} {A : fa_A} {L : List Int}
end
set_option maxRecDepth 100000 in
theorem f_X7_isSound {w : sg_W} {Q : sg_O → sg_H → Prop} {h : sg_H} (g : sg_G w) {d : Nat} (hd : 3 ≤ d) {M : Nat} {A : fa_A} (hA : md_ab h M = A) (hx : md_M w h M) (hQ : ∀ (v : Int) (h' : sg_H), (md_t h' M = 0) → (md_t h' M = 0 → v = 1) → md_Y w h h' M → Q (.inl (some (sg_i v))) h') : sg_C w mi_X7_isSound d 0 0 [sg_r M] h Q := by
  refine sg_of pn_X7 (Nat.le_of_ble_eq_true rfl) ?_
  have y0 := md_Y0 hx
  have hk := hx.2.1
  refine sg_aload_n (pc := 0) (j := 0) (dc_X7_isSound_0.1.1.1.1) rfl rfl ?_
  refine sg_iconst (pc := 1) (z := 0) (dc_X7_isSound_0.1.1.1.2) (by decide) ?_
  refine md_pth (pc := 2) g (dc_X7_isSound_0.1.1.2.1) fk_X7_41 (by assumption) (by omega) (fun h2 y2 e2 s2 u2 => ?_)
  have x2 := y2.1
  refine sg_aload_n (pc := 5) (j := 0) (dc_X7_isSound_0.1.1.2.2) rfl rfl ?_
  refine md_grw (pc := 6) g (dc_X7_isSound_0.1.2.1.1) fk_X7_9 (by assumption) (fun r6 => ?_)
  refine sg_iconst (pc := 9) (z := 4) (dc_X7_isSound_0.1.2.1.2) (by decide) ?_
  refine md_alXt (t := 0) (L := fa_L A (4 + 0)) (pc := 10) (dc_X7_isSound_0.1.2.2.1) hA y2 rfl (by omega) (by omega) (fun X10 l10 => ?_)
  refine md_xlen (pc := 11) (dc_X7_isSound_0.1.2.2.2) (by assumption) (by omega) ?_
  refine sg_bipush (pc := 12) (z := 24) (dc_X7_isSound_0.2.1.1.1) (by decide) ?_
  refine sg_icmp_gt (pc := 14) (tgt := 33) (dc_X7_isSound_0.2.1.1.2) (by decide) (fun c14 => ?_) (fun c14 => ?_)
  · exfalso
    omega
  · refine sg_aload_n (pc := 17) (j := 0) (dc_X7_isSound_0.2.1.2.1) rfl rfl ?_
    refine md_grw (pc := 18) g (dc_X7_isSound_0.2.1.2.2) fk_X7_9 (by assumption) (fun r18 => ?_)
    refine sg_iconst (pc := 21) (z := 5) (dc_X7_isSound_0.2.2.1.1) (by decide) ?_
    refine md_alXt (t := 1) (L := fa_L A (4 + 1)) (pc := 22) (dc_X7_isSound_0.2.2.1.2) hA y2 rfl (by omega) (by omega) (fun X22 l22 => ?_)
    refine md_xlen (pc := 23) (dc_X7_isSound_0.2.2.2.1) (by assumption) (by omega) ?_
    refine sg_bipush (pc := 24) (z := 24) (dc_X7_isSound_0.2.2.2.2) (by decide) ?_
    refine sg_icmp_gt (pc := 26) (tgt := 33) (dc_X7_isSound_26.1.1.1.1) (by decide) (fun c26 => ?_) (fun c26 => ?_)
    · exfalso
      omega
    · refine sg_iconst (pc := 29) (z := 1) (dc_X7_isSound_26.1.1.1.2) (by decide) ?_
      refine sg_goto (pc := 30) (tgt := 34) (dc_X7_isSound_26.1.1.2.1) (by decide) ?_
      refine sg_istore_n (pc := 34) (j := 1) (dc_X7_isSound_26.1.2.1.1) rfl (by decide) ?_
      refine sg_iconst (pc := 35) (z := 0) (dc_X7_isSound_26.1.2.1.2) (by decide) ?_
      refine sg_istore_n (pc := 36) (j := 2) (dc_X7_isSound_26.1.2.2.1) rfl (by decide) ?_
      have loop37 : ∀ (N : Nat) (p : Int), (0 ≤ p ∧ p ≤ 4) → (4 - p).toNat < N → sg_R w mi_X7_isSound d 0 0 Q 37 [(2, sg_i p), (1, sg_i 1), (0, sg_r M)] [] h2 0 0 := by
        intro N
        induction N with
        | zero => intro p p0 hm; exact absurd hm (Nat.not_lt_zero _)
        | succ N ih =>
          intro p p0 hm
          refine sg_iload_n (pc := 37) (j := 2) (dc_X7_isSound_26.1.2.2.2) rfl rfl ?_
          refine sg_iconst (pc := 38) (z := 4) (dc_X7_isSound_26.2.1.1.1) (by decide) ?_
          refine sg_icmp_ge (pc := 39) (tgt := 68) (dc_X7_isSound_26.2.1.1.2) (by decide) (fun c39 => ?_) (fun c39 => ?_)
          · refine sg_iload_n (pc := 68) (j := 1) (dc_X7_isSound_50.2.1.1.2) rfl rfl ?_
            refine sg_zret (pc := 69) (dc_X7_isSound_50.2.1.2.1) rfl (by first | exact Or.inl rfl | exact Or.inr rfl | omega | assumption) (by first | exact Nat.le_of_ble_eq_true rfl | omega) (by first | exact Nat.le_of_ble_eq_true rfl | omega) ?_
            first
              | exact hQ _ _ (by omega) (fun q => absurd q (by omega)) (by assumption)
              | exact hQ _ _ (by omega) (fun _ => rfl) (by assumption)
          · refine sg_iload_n (pc := 42) (j := 1) (dc_X7_isSound_26.2.1.2.1) rfl rfl ?_
            refine sg_aload_n (pc := 43) (j := 0) (dc_X7_isSound_26.2.1.2.2) rfl rfl ?_
            refine md_grw (pc := 44) g (dc_X7_isSound_26.2.2.1.1) fk_X7_9 (by assumption) (fun r44 => ?_)
            refine sg_iload_n (pc := 47) (j := 2) (dc_X7_isSound_26.2.2.1.2) rfl rfl ?_
            refine md_alX (L := fa_L A p.toNat) (pc := 48) (dc_X7_isSound_26.2.2.2.1) hA y2 rfl (by omega) (by omega) (fun X48 l48 => ?_)
            refine md_xlen (pc := 49) (dc_X7_isSound_26.2.2.2.2) (by assumption) (by omega) ?_
            refine sg_bipush (pc := 50) (z := 40) (dc_X7_isSound_50.1.1.1.1) (by decide) ?_
            refine sg_icmp_gt (pc := 52) (tgt := 59) (dc_X7_isSound_50.1.1.1.2) (by decide) (fun c52 => ?_) (fun c52 => ?_)
            · exfalso
              omega
            · refine sg_iconst (pc := 55) (z := 1) (dc_X7_isSound_50.1.1.2.1) (by decide) ?_
              refine sg_goto (pc := 56) (tgt := 60) (dc_X7_isSound_50.1.1.2.2) (by decide) ?_
              refine sg_iand (pc := 60) (dc_X7_isSound_50.1.2.1.2) ?_
              refine sg_istore_n (pc := 61) (j := 1) (dc_X7_isSound_50.1.2.2.1) rfl (by decide) ?_
              first | refine sg_iincB (pc := 62) (dc_X7_isSound_50.1.2.2.2) rfl (by decide) (by decide) (by omega) (by omega) ?_ | refine sg_iinc (pc := 62) (dc_X7_isSound_50.1.2.2.2) rfl (by decide) (by decide) ?_
              refine sg_goto (pc := 65) (tgt := 37) (dc_X7_isSound_50.2.1.1.1) (by decide) ?_
              refine sg_lsub (lv' := [(2, _), (1, _), (0, _)]) ⟨rfl, rfl, rfl, trivial⟩ ?_
              exact ih _ (by omega) (by first | exact jl_m1 hm (by omega) | exact jl_m2 hm (by omega) | omega)
      refine sg_lsub (lv' := [(2, _), (1, _), (0, _)]) ⟨rfl, rfl, rfl, trivial⟩ ?_
      exact loop37 _ _ (by omega) (Nat.lt_succ_self _)

