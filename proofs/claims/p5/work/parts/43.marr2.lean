set_option maxRecDepth 100000 in
theorem s_X7_joined {w : sg_W} {Q : sg_O → sg_H → Prop} {h : sg_H} (g : sg_G w) {d : Nat} (hd : 3 ≤ d) {c a b n m : Nat} (hA : md_A c h a n) (hB : md_A c h b m) (hn : n ≤ 100) (hm : m ≤ 100) (hQ : ∀ h' : sg_H, md_T c h h' (n + m) → Q (.inl (some (sg_r h.1))) h') : sg_C w mi_X7_joined d 1 (n + m) [sg_r a, sg_r b] h Q := by
  refine sg_of pn_X7 (Nat.le_of_ble_eq_true rfl) ?_
  refine sg_aload_n (pc := 0) (j := 0) (dc_X7_joined_0.1.1.1.1) rfl rfl ?_
  refine md_len (pc := 1) (dc_X7_joined_0.1.1.1.2) hA (by omega) ?_
  refine sg_aload_n (pc := 2) (j := 1) (dc_X7_joined_0.1.1.2.1) rfl rfl ?_
  refine md_len (pc := 3) (dc_X7_joined_0.1.1.2.2) hB (by omega) ?_
  first | refine sg_iaddB (pc := 4) (dc_X7_joined_0.1.2.1.1) (by omega) (by omega) ?_ | refine sg_iadd (pc := 4) (dc_X7_joined_0.1.2.1.1) ?_
  refine sg_newa (t := 100) (N := (n + m)) (pc := 5) g (dc_X7_joined_0.1.2.1.2) ac_int rfl (by decide) (by decide) rfl rfl (by decide) (by omega) (by omega) (by omega) (by omega) ?_
  refine sg_astore_n (pc := 7) (j := 2) (dc_X7_joined_0.1.2.2.1) rfl (by decide) ?_
  refine sg_iconst (pc := 8) (z := 0) (dc_X7_joined_0.1.2.2.2) (by decide) ?_
  refine sg_istore_n (pc := 9) (j := 3) (dc_X7_joined_0.2.1.1.1) rfl (by decide) ?_
  have loop10 : ∀ (N : Nat) (h1 : sg_H) (p : Int), (md_T c h h1 (n + m)) → (0 ≤ p) → ((n : Int) + m - p).toNat < N → sg_R w mi_X7_joined d 1 (n + m) Q 10 [(3, sg_i p), (0, sg_r a), (1, sg_r b), (2, sg_r h.1)] [] h1 1 (0 + (n + m)) := by
    intro N
    induction N with
    | zero => intro h1 p t1 p0 hm; exact absurd hm (Nat.not_lt_zero _)
    | succ N ih =>
      intro h1 p t1 p0 hm
      refine sg_iload_n (pc := 10) (j := 3) (dc_X7_joined_0.2.1.1.2) rfl rfl ?_
      refine sg_aload_n (pc := 11) (j := 2) (dc_X7_joined_0.2.1.2.1) rfl rfl ?_
      refine md_len (pc := 12) (dc_X7_joined_0.2.1.2.2) t1.2.2 (by omega) ?_
      refine sg_icmp_ge (pc := 13) (tgt := 43) (dc_X7_joined_0.2.2.1.1) (by decide) (fun c13 => ?_) (fun c13 => ?_)
      · refine sg_aload_n (pc := 43) (j := 2) (dc_X7_joined_43.1) rfl rfl ?_
        refine sg_aret (pc := 44) (dc_X7_joined_43.2) rfl (by first | exact Or.inl ⟨_, rfl⟩ | exact Or.inr ⟨_, rfl⟩) (by first | exact Nat.le_of_ble_eq_true rfl | omega) (by first | exact Nat.le_of_ble_eq_true rfl | omega) ?_
        exact hQ _ t1
      · refine sg_aload_n (pc := 16) (j := 2) (dc_X7_joined_0.2.2.1.2) rfl rfl ?_
        refine sg_iload_n (pc := 17) (j := 3) (dc_X7_joined_0.2.2.2.1) rfl rfl ?_
        refine sg_iload_n (pc := 18) (j := 3) (dc_X7_joined_0.2.2.2.2) rfl rfl ?_
        refine sg_aload_n (pc := 19) (j := 0) (dc_X7_joined_19.1.1.1.1) rfl rfl ?_
        refine md_len (pc := 20) (dc_X7_joined_19.1.1.1.2) (md_AT hA t1) (by omega) ?_
        refine sg_icmp_ge (pc := 21) (tgt := 30) (dc_X7_joined_19.1.1.2.1) (by decide) (fun c21 => ?_) (fun c21 => ?_)
        · refine sg_aload_n (pc := 30) (j := 1) (dc_X7_joined_19.1.2.2.2) rfl rfl ?_
          refine sg_iload_n (pc := 31) (j := 3) (dc_X7_joined_19.2.1.1.1) rfl rfl ?_
          refine sg_aload_n (pc := 32) (j := 0) (dc_X7_joined_19.2.1.1.2) rfl rfl ?_
          refine md_len (pc := 33) (dc_X7_joined_19.2.1.2.1) (md_AT hA t1) (by omega) ?_
          first | refine sg_isubB (pc := 34) (dc_X7_joined_19.2.1.2.2) (by omega) (by omega) ?_ | refine sg_isub (pc := 34) (dc_X7_joined_19.2.1.2.2) ?_
          refine md_ald (pc := 35) (dc_X7_joined_19.2.2.1.1) (md_AT hB t1) (by omega) (by omega) (fun x35 g35 => ?_)
          refine md_ast (pc := 36) (dc_X7_joined_19.2.2.1.2) t1 (by assumption) (by omega) (by omega) (fun h36 t36 => ?_)
          first | refine sg_iincB (pc := 37) (dc_X7_joined_19.2.2.2.1) rfl (by decide) (by decide) (by omega) (by omega) ?_ | refine sg_iinc (pc := 37) (dc_X7_joined_19.2.2.2.1) rfl (by decide) (by decide) ?_
          refine sg_goto (pc := 40) (tgt := 10) (dc_X7_joined_19.2.2.2.2) (by decide) ?_
          refine sg_lsub (lv' := [(3, _), (0, _), (1, _), (2, _)]) ⟨rfl, rfl, rfl, rfl, trivial⟩ ?_
          exact ih _ _ t36 (by omega) (by first | exact jl_m1 hm (by omega) | exact jl_m2 hm (by omega) | omega)
        · refine sg_aload_n (pc := 24) (j := 0) (dc_X7_joined_19.1.1.2.2) rfl rfl ?_
          refine sg_iload_n (pc := 25) (j := 3) (dc_X7_joined_19.1.2.1.1) rfl rfl ?_
          refine md_ald (pc := 26) (dc_X7_joined_19.1.2.1.2) (md_AT hA t1) (by omega) (by omega) (fun x26 g26 => ?_)
          refine sg_goto (pc := 27) (tgt := 36) (dc_X7_joined_19.1.2.2.1) (by decide) ?_
          refine md_ast (pc := 36) (dc_X7_joined_19.2.2.1.2) t1 (by assumption) (by omega) (by omega) (fun h36 t36 => ?_)
          first | refine sg_iincB (pc := 37) (dc_X7_joined_19.2.2.2.1) rfl (by decide) (by decide) (by omega) (by omega) ?_ | refine sg_iinc (pc := 37) (dc_X7_joined_19.2.2.2.1) rfl (by decide) (by decide) ?_
          refine sg_goto (pc := 40) (tgt := 10) (dc_X7_joined_19.2.2.2.2) (by decide) ?_
          refine sg_lsub (lv' := [(3, _), (0, _), (1, _), (2, _)]) ⟨rfl, rfl, rfl, rfl, trivial⟩ ?_
          exact ih _ _ t36 (by omega) (by first | exact jl_m1 hm (by omega) | exact jl_m2 hm (by omega) | omega)
  refine sg_lsub (lv' := [(3, _), (0, _), (1, _), (2, _)]) ⟨rfl, rfl, rfl, rfl, trivial⟩ ?_
  exact loop10 _ _ _ md_new (by omega) (Nat.lt_succ_self _)

set_option maxRecDepth 100000 in
theorem s_X7_spelledOf {w : sg_W} {Q : sg_O → sg_H → Prop} {h : sg_H} (g : sg_G w) {d : Nat} (hd : 5 ≤ d) {c a n : Nat} (hA : md_A c h a n) (hn : n ≤ 100) (hQ : ∀ h' : sg_H, md_T 3 h h' (2 * n) → Q (.inl (some (sg_r h.1))) h') : sg_C w mi_X7_spelledOf d 1 (2 * n) [sg_r a] h Q := by
  refine sg_of pn_X7 (Nat.le_of_ble_eq_true rfl) ?_
  refine sg_iconst (pc := 0) (z := 2) (dc_X7_spelledOf_0.1.1.1.1) (by decide) ?_
  refine sg_aload_n (pc := 1) (j := 0) (dc_X7_spelledOf_0.1.1.1.2) rfl rfl ?_
  refine md_len (pc := 2) (dc_X7_spelledOf_0.1.1.2.1) hA (by omega) ?_
  first | refine sg_imulB (pc := 3) (dc_X7_spelledOf_0.1.1.2.2) (by omega) (by omega) ?_ | refine sg_imul (pc := 3) (dc_X7_spelledOf_0.1.1.2.2) ?_
  refine sg_newa (t := 100) (N := (2 * n)) (pc := 4) g (dc_X7_spelledOf_0.1.2.1.1) ac_int rfl (by decide) (by decide) rfl rfl (by decide) (by omega) (by omega) (by omega) (by omega) ?_
  refine sg_astore_n (pc := 6) (j := 1) (dc_X7_spelledOf_0.1.2.1.2) rfl (by decide) ?_
  refine sg_iconst (pc := 7) (z := 0) (dc_X7_spelledOf_0.1.2.2.1) (by decide) ?_
  refine sg_istore_n (pc := 8) (j := 2) (dc_X7_spelledOf_0.1.2.2.2) rfl (by decide) ?_
  have loop9 : ∀ (N : Nat) (h1 : sg_H) (p : Int), (md_T 3 h h1 (2 * n)) → (0 ≤ p) → ((2 * n : Int) - p).toNat < N → sg_R w mi_X7_spelledOf d 1 (2 * n) Q 9 [(2, sg_i p), (0, sg_r a), (1, sg_r h.1)] [] h1 1 (0 + (2 * n)) := by
    intro N
    induction N with
    | zero => intro h1 p t1 p0 hm; exact absurd hm (Nat.not_lt_zero _)
    | succ N ih =>
      intro h1 p t1 p0 hm
      refine sg_iload_n (pc := 9) (j := 2) (dc_X7_spelledOf_0.2.1.1.1) rfl rfl ?_
      refine sg_aload_n (pc := 10) (j := 1) (dc_X7_spelledOf_0.2.1.1.2) rfl rfl ?_
      refine md_len (pc := 11) (dc_X7_spelledOf_0.2.1.2.1) t1.2.2 (by omega) ?_
      refine sg_icmp_ge (pc := 12) (tgt := 54) (dc_X7_spelledOf_0.2.1.2.2) (by decide) (fun c12 => ?_) (fun c12 => ?_)
      · refine sg_aload_n (pc := 54) (j := 1) (dc_X7_spelledOf_41.2.2.1) rfl rfl ?_
        refine sg_aret (pc := 55) (dc_X7_spelledOf_41.2.2.2) rfl (by first | exact Or.inl ⟨_, rfl⟩ | exact Or.inr ⟨_, rfl⟩) (by first | exact Nat.le_of_ble_eq_true rfl | omega) (by first | exact Nat.le_of_ble_eq_true rfl | omega) ?_
        exact hQ _ t1
      · refine sg_aload_n (pc := 15) (j := 1) (dc_X7_spelledOf_0.2.2.1.1) rfl rfl ?_
        refine sg_iload_n (pc := 16) (j := 2) (dc_X7_spelledOf_0.2.2.1.2) rfl rfl ?_
        refine sg_iload_n (pc := 17) (j := 2) (dc_X7_spelledOf_0.2.2.2.1) rfl rfl ?_
        refine sg_iconst (pc := 18) (z := 2) (dc_X7_spelledOf_0.2.2.2.2) (by decide) ?_
        first | refine sg_iremP (pc := 19) (dc_X7_spelledOf_19.1.1.1.1) (by omega) (by omega) ?_ | refine sg_irem (pc := 19) (dc_X7_spelledOf_19.1.1.1.1) (by first | omega | assumption) ?_
        refine sg_if_ne (pc := 20) (tgt := 34) (dc_X7_spelledOf_19.1.1.1.2) (by decide) (fun c20 => ?_) (fun c20 => ?_)
        · refine sg_aload_n (pc := 34) (j := 0) (dc_X7_spelledOf_19.2.1.2.1) rfl rfl ?_
          refine sg_iload_n (pc := 35) (j := 2) (dc_X7_spelledOf_19.2.1.2.2) rfl rfl ?_
          refine sg_iconst (pc := 36) (z := 2) (dc_X7_spelledOf_19.2.2.1.1) (by decide) ?_
          first | refine sg_idivP (pc := 37) (dc_X7_spelledOf_19.2.2.1.2) (by omega) (by omega) (by omega) ?_ | refine sg_idiv (pc := 37) (dc_X7_spelledOf_19.2.2.1.2) (by first | omega | assumption) ?_
          refine md_ald (pc := 38) (dc_X7_spelledOf_19.2.2.2.1) (md_AT hA t1) (by omega) (by omega) (fun x38 g38 => ?_)
          refine sg_bipush (pc := 39) (z := 16) (dc_X7_spelledOf_19.2.2.2.2) (by decide) ?_
          first | refine sg_iremP (pc := 41) (dc_X7_spelledOf_41.1.1.1) (by omega) (by omega) ?_ | refine sg_irem (pc := 41) (dc_X7_spelledOf_41.1.1.1) (by first | omega | assumption) ?_
          refine sg_bipush (pc := 42) (z := 16) (dc_X7_spelledOf_41.1.1.2) (by decide) ?_
          refine sg_cS2 (pc := 44) (d' := d - 1) (mc' := 0) (ms' := 0) g (dc_X7_spelledOf_41.1.2.1) cb_X7_digitOf ml_X7_108 ms_X7_digitOf (Nat.le_of_ble_eq_true rfl) (by first | exact jl_d0 hd rfl | omega) (by first | exact Nat.le_of_ble_eq_true rfl | omega) (by first | exact Nat.le_of_ble_eq_true rfl | omega) ?_
          refine s_X7_digitOf g (by first | exact jl_d1 hd rfl | omega) (fun z44 h44 => sg_K1 ?_)
          refine md_ast (pc := 47) (dc_X7_spelledOf_41.1.2.2) t1 (by rw [ck_v3]; (try simp only [fn_digit] at *) <;> (repeat' split at *) <;> omega) (by omega) (by omega) (fun h47 t47 => ?_)
          first | refine sg_iincB (pc := 48) (dc_X7_spelledOf_41.2.1.1) rfl (by decide) (by decide) (by omega) (by omega) ?_ | refine sg_iinc (pc := 48) (dc_X7_spelledOf_41.2.1.1) rfl (by decide) (by decide) ?_
          refine sg_goto (pc := 51) (tgt := 9) (dc_X7_spelledOf_41.2.1.2) (by decide) ?_
          refine sg_lsub (lv' := [(2, _), (0, _), (1, _)]) ⟨rfl, rfl, rfl, trivial⟩ ?_
          exact ih _ _ t47 (by omega) (by first | exact jl_m1 hm (by omega) | exact jl_m2 hm (by omega) | omega)
        · refine sg_aload_n (pc := 23) (j := 0) (dc_X7_spelledOf_19.1.1.2.1) rfl rfl ?_
          refine sg_iload_n (pc := 24) (j := 2) (dc_X7_spelledOf_19.1.1.2.2) rfl rfl ?_
          refine sg_iconst (pc := 25) (z := 2) (dc_X7_spelledOf_19.1.2.1.1) (by decide) ?_
          first | refine sg_idivP (pc := 26) (dc_X7_spelledOf_19.1.2.1.2) (by omega) (by omega) (by omega) ?_ | refine sg_idiv (pc := 26) (dc_X7_spelledOf_19.1.2.1.2) (by first | omega | assumption) ?_
          refine md_ald (pc := 27) (dc_X7_spelledOf_19.1.2.2.1) (md_AT hA t1) (by omega) (by omega) (fun x27 g27 => ?_)
          refine sg_bipush (pc := 28) (z := 16) (dc_X7_spelledOf_19.1.2.2.2) (by decide) ?_
          first | refine sg_idivP (pc := 30) (dc_X7_spelledOf_19.2.1.1.1) (by omega) (by omega) (by omega) ?_ | refine sg_idiv (pc := 30) (dc_X7_spelledOf_19.2.1.1.1) (by first | omega | assumption) ?_
          refine sg_goto (pc := 31) (tgt := 42) (dc_X7_spelledOf_19.2.1.1.2) (by decide) ?_
          refine sg_bipush (pc := 42) (z := 16) (dc_X7_spelledOf_41.1.1.2) (by decide) ?_
          refine sg_cS2 (pc := 44) (d' := d - 1) (mc' := 0) (ms' := 0) g (dc_X7_spelledOf_41.1.2.1) cb_X7_digitOf ml_X7_108 ms_X7_digitOf (Nat.le_of_ble_eq_true rfl) (by first | exact jl_d0 hd rfl | omega) (by first | exact Nat.le_of_ble_eq_true rfl | omega) (by first | exact Nat.le_of_ble_eq_true rfl | omega) ?_
          refine s_X7_digitOf g (by first | exact jl_d1 hd rfl | omega) (fun z44 h44 => sg_K1 ?_)
          refine md_ast (pc := 47) (dc_X7_spelledOf_41.1.2.2) t1 (by rw [ck_v3]; (try simp only [fn_digit] at *) <;> (repeat' split at *) <;> omega) (by omega) (by omega) (fun h47 t47 => ?_)
          first | refine sg_iincB (pc := 48) (dc_X7_spelledOf_41.2.1.1) rfl (by decide) (by decide) (by omega) (by omega) ?_ | refine sg_iinc (pc := 48) (dc_X7_spelledOf_41.2.1.1) rfl (by decide) (by decide) ?_
          refine sg_goto (pc := 51) (tgt := 9) (dc_X7_spelledOf_41.2.1.2) (by decide) ?_
          refine sg_lsub (lv' := [(2, _), (0, _), (1, _)]) ⟨rfl, rfl, rfl, trivial⟩ ?_
          exact ih _ _ t47 (by omega) (by first | exact jl_m1 hm (by omega) | exact jl_m2 hm (by omega) | omega)
  refine sg_lsub (lv' := [(2, _), (0, _), (1, _)]) ⟨rfl, rfl, rfl, trivial⟩ ?_
  exact loop9 _ _ _ md_new (by omega) (Nat.lt_succ_self _)

set_option maxRecDepth 100000 in
theorem s_X7_orderOf {w : sg_W} {Q : sg_O → sg_H → Prop} {h : sg_H} (g : sg_G w) {d : Nat} (hd : 2 ≤ d) {this c a b n m : Nat} (hA : md_A c h a n) (hB : md_A c h b m) (hn : n ≤ 100) (hm : m ≤ 100) (hQ : ∀ v : Int, Q (.inl (some (sg_i v))) h) : sg_C w mi_X7_orderOf d 0 0 [sg_r this, sg_r a, sg_r b] h Q := by
  refine sg_of pn_X7 (Nat.le_of_ble_eq_true rfl) ?_
  refine sg_iconst (pc := 0) (z := 0) (dc_X7_orderOf_0.1.1.1.1) (by decide) ?_
  refine sg_istore_n (pc := 1) (j := 3) (dc_X7_orderOf_0.1.1.1.2) rfl (by decide) ?_
  have loop2 : ∀ (N : Nat) (p : Int), (0 ≤ p) → ((n : Int) - p).toNat < N → sg_R w mi_X7_orderOf d 0 0 Q 2 [(3, sg_i p), (0, sg_r this), (1, sg_r a), (2, sg_r b)] [] h 0 0 := by
    intro N
    induction N with
    | zero => intro p p0 hm; exact absurd hm (Nat.not_lt_zero _)
    | succ N ih =>
      intro p p0 hm
      refine sg_iload_n (pc := 2) (j := 3) (dc_X7_orderOf_0.1.1.2.1) rfl rfl ?_
      refine sg_aload_n (pc := 3) (j := 1) (dc_X7_orderOf_0.1.1.2.2) rfl rfl ?_
      refine md_len (pc := 4) (dc_X7_orderOf_0.1.2.1.1) hA (by omega) ?_
      refine sg_icmp_ge (pc := 5) (tgt := 44) (dc_X7_orderOf_0.1.2.1.2) (by decide) (fun c5 => ?_) (fun c5 => ?_)
      · refine sg_aload_n (pc := 44) (j := 1) (dc_X7_orderOf_20.2.2.2.1) rfl rfl ?_
        refine md_len (pc := 45) (dc_X7_orderOf_20.2.2.2.2) hA (by omega) ?_
        refine sg_aload_n (pc := 46) (j := 2) (dc_X7_orderOf_46.1.1.1.1) rfl rfl ?_
        refine md_len (pc := 47) (dc_X7_orderOf_46.1.1.1.2) hB (by omega) ?_
        refine sg_icmp_ne (pc := 48) (tgt := 55) (dc_X7_orderOf_46.1.1.2.1) (by decide) (fun c48 => ?_) (fun c48 => ?_)
        · refine sg_aload_n (pc := 55) (j := 1) (dc_X7_orderOf_46.1.2.1.2) rfl rfl ?_
          refine md_len (pc := 56) (dc_X7_orderOf_46.1.2.2.1) hA (by omega) ?_
          refine sg_aload_n (pc := 57) (j := 2) (dc_X7_orderOf_46.1.2.2.2) rfl rfl ?_
          refine md_len (pc := 58) (dc_X7_orderOf_46.2.1.1.1) hB (by omega) ?_
          refine sg_icmp_ge (pc := 59) (tgt := 66) (dc_X7_orderOf_46.2.1.1.2) (by decide) (fun c59 => ?_) (fun c59 => ?_)
          · refine sg_iconst (pc := 66) (z := 1) (dc_X7_orderOf_46.2.2.1.1) (by decide) ?_
            refine sg_iret (pc := 67) (dc_X7_orderOf_46.2.2.1.2) rfl (by first | exact Nat.le_of_ble_eq_true rfl | omega) (by first | exact Nat.le_of_ble_eq_true rfl | omega) ?_
            exact hQ _
          · refine sg_iconst (pc := 62) (z := -1) (dc_X7_orderOf_46.2.1.2.1) (by decide) ?_
            refine sg_goto (pc := 63) (tgt := 67) (dc_X7_orderOf_46.2.1.2.2) (by decide) ?_
            refine sg_iret (pc := 67) (dc_X7_orderOf_46.2.2.1.2) rfl (by first | exact Nat.le_of_ble_eq_true rfl | omega) (by first | exact Nat.le_of_ble_eq_true rfl | omega) ?_
            exact hQ _
        · refine sg_iconst (pc := 51) (z := 0) (dc_X7_orderOf_46.1.1.2.2) (by decide) ?_
          refine sg_goto (pc := 52) (tgt := 67) (dc_X7_orderOf_46.1.2.1.1) (by decide) ?_
          refine sg_iret (pc := 67) (dc_X7_orderOf_46.2.2.1.2) rfl (by first | exact Nat.le_of_ble_eq_true rfl | omega) (by first | exact Nat.le_of_ble_eq_true rfl | omega) ?_
          exact hQ _
      · refine sg_iload_n (pc := 8) (j := 3) (dc_X7_orderOf_0.1.2.2.1) rfl rfl ?_
        refine sg_aload_n (pc := 9) (j := 2) (dc_X7_orderOf_0.1.2.2.2) rfl rfl ?_
        refine md_len (pc := 10) (dc_X7_orderOf_0.2.1.1.1) hB (by omega) ?_
        refine sg_icmp_ge (pc := 11) (tgt := 44) (dc_X7_orderOf_0.2.1.1.2) (by decide) (fun c11 => ?_) (fun c11 => ?_)
        · refine sg_aload_n (pc := 44) (j := 1) (dc_X7_orderOf_20.2.2.2.1) rfl rfl ?_
          refine md_len (pc := 45) (dc_X7_orderOf_20.2.2.2.2) hA (by omega) ?_
          refine sg_aload_n (pc := 46) (j := 2) (dc_X7_orderOf_46.1.1.1.1) rfl rfl ?_
          refine md_len (pc := 47) (dc_X7_orderOf_46.1.1.1.2) hB (by omega) ?_
          refine sg_icmp_ne (pc := 48) (tgt := 55) (dc_X7_orderOf_46.1.1.2.1) (by decide) (fun c48 => ?_) (fun c48 => ?_)
          · refine sg_aload_n (pc := 55) (j := 1) (dc_X7_orderOf_46.1.2.1.2) rfl rfl ?_
            refine md_len (pc := 56) (dc_X7_orderOf_46.1.2.2.1) hA (by omega) ?_
            refine sg_aload_n (pc := 57) (j := 2) (dc_X7_orderOf_46.1.2.2.2) rfl rfl ?_
            refine md_len (pc := 58) (dc_X7_orderOf_46.2.1.1.1) hB (by omega) ?_
            refine sg_icmp_ge (pc := 59) (tgt := 66) (dc_X7_orderOf_46.2.1.1.2) (by decide) (fun c59 => ?_) (fun c59 => ?_)
            · refine sg_iconst (pc := 66) (z := 1) (dc_X7_orderOf_46.2.2.1.1) (by decide) ?_
              refine sg_iret (pc := 67) (dc_X7_orderOf_46.2.2.1.2) rfl (by first | exact Nat.le_of_ble_eq_true rfl | omega) (by first | exact Nat.le_of_ble_eq_true rfl | omega) ?_
              exact hQ _
            · refine sg_iconst (pc := 62) (z := -1) (dc_X7_orderOf_46.2.1.2.1) (by decide) ?_
              refine sg_goto (pc := 63) (tgt := 67) (dc_X7_orderOf_46.2.1.2.2) (by decide) ?_
              refine sg_iret (pc := 67) (dc_X7_orderOf_46.2.2.1.2) rfl (by first | exact Nat.le_of_ble_eq_true rfl | omega) (by first | exact Nat.le_of_ble_eq_true rfl | omega) ?_
              exact hQ _
          · refine sg_iconst (pc := 51) (z := 0) (dc_X7_orderOf_46.1.1.2.2) (by decide) ?_
            refine sg_goto (pc := 52) (tgt := 67) (dc_X7_orderOf_46.1.2.1.1) (by decide) ?_
            refine sg_iret (pc := 67) (dc_X7_orderOf_46.2.2.1.2) rfl (by first | exact Nat.le_of_ble_eq_true rfl | omega) (by first | exact Nat.le_of_ble_eq_true rfl | omega) ?_
            exact hQ _
        · refine sg_aload_n (pc := 14) (j := 1) (dc_X7_orderOf_0.2.1.2.1) rfl rfl ?_
          refine sg_iload_n (pc := 15) (j := 3) (dc_X7_orderOf_0.2.1.2.2) rfl rfl ?_
          refine md_ald (pc := 16) (dc_X7_orderOf_0.2.2.1.1) hA (by omega) (by omega) (fun x16 g16 => ?_)
          refine sg_aload_n (pc := 17) (j := 2) (dc_X7_orderOf_0.2.2.1.2) rfl rfl ?_
          refine sg_iload_n (pc := 18) (j := 3) (dc_X7_orderOf_0.2.2.2.1) rfl rfl ?_
          refine md_ald (pc := 19) (dc_X7_orderOf_0.2.2.2.2) hB (by omega) (by omega) (fun x19 g19 => ?_)
          refine sg_icmp_eq (pc := 20) (tgt := 38) (dc_X7_orderOf_20.1.1.1.1) (by decide) (fun c20 => ?_) (fun c20 => ?_)
          · first | refine sg_iincB (pc := 38) (dc_X7_orderOf_20.2.2.1.1) rfl (by decide) (by decide) (by omega) (by omega) ?_ | refine sg_iinc (pc := 38) (dc_X7_orderOf_20.2.2.1.1) rfl (by decide) (by decide) ?_
            refine sg_goto (pc := 41) (tgt := 2) (dc_X7_orderOf_20.2.2.1.2) (by decide) ?_
            refine sg_lsub (lv' := [(3, _), (0, _), (1, _), (2, _)]) ⟨rfl, rfl, rfl, rfl, trivial⟩ ?_
            exact ih _ (by omega) (by first | exact jl_m1 hm (by omega) | exact jl_m2 hm (by omega) | omega)
          · refine sg_aload_n (pc := 23) (j := 1) (dc_X7_orderOf_20.1.1.1.2) rfl rfl ?_
            refine sg_iload_n (pc := 24) (j := 3) (dc_X7_orderOf_20.1.1.2.1) rfl rfl ?_
            refine md_ald (pc := 25) (dc_X7_orderOf_20.1.1.2.2) hA (by omega) (by omega) (fun x25 g25 => ?_)
            refine sg_aload_n (pc := 26) (j := 2) (dc_X7_orderOf_20.1.2.1.1) rfl rfl ?_
            refine sg_iload_n (pc := 27) (j := 3) (dc_X7_orderOf_20.1.2.1.2) rfl rfl ?_
            refine md_ald (pc := 28) (dc_X7_orderOf_20.1.2.2.1) hB (by omega) (by omega) (fun x28 g28 => ?_)
            refine sg_icmp_ge (pc := 29) (tgt := 36) (dc_X7_orderOf_20.1.2.2.2) (by decide) (fun c29 => ?_) (fun c29 => ?_)
            · refine sg_iconst (pc := 36) (z := 1) (dc_X7_orderOf_20.2.1.2.1) (by decide) ?_
              refine sg_iret (pc := 37) (dc_X7_orderOf_20.2.1.2.2) rfl (by first | exact Nat.le_of_ble_eq_true rfl | omega) (by first | exact Nat.le_of_ble_eq_true rfl | omega) ?_
              exact hQ _
            · refine sg_iconst (pc := 32) (z := -1) (dc_X7_orderOf_20.2.1.1.1) (by decide) ?_
              refine sg_goto (pc := 33) (tgt := 37) (dc_X7_orderOf_20.2.1.1.2) (by decide) ?_
              refine sg_iret (pc := 37) (dc_X7_orderOf_20.2.1.2.2) rfl (by first | exact Nat.le_of_ble_eq_true rfl | omega) (by first | exact Nat.le_of_ble_eq_true rfl | omega) ?_
              exact hQ _
  refine sg_lsub (lv' := [(3, _), (0, _), (1, _), (2, _)]) ⟨rfl, rfl, rfl, rfl, trivial⟩ ?_
  exact loop2 _ _ (by omega) (Nat.lt_succ_self _)

