set_option maxRecDepth 100000 in
theorem f_X7_sent {w : sg_W} {Q : sg_O → sg_H → Prop} {h : sg_H} (g : sg_G w) {d : Nat} (hd : 2 ≤ d) {x : Int} (hv : 0 ≤ x ∧ x ≤ 1114111) (hQ : ∀ h' : sg_H, md_F 1 h h' (fs_sent x) → Q (.inl (some (sg_r h.1))) h') : sg_C w mi_X7_sent d 1 2 [sg_i x] h Q := by
  refine sg_of pn_X7 (Nat.le_of_ble_eq_true rfl) ?_
  refine sg_iload_n (pc := 0) (j := 0) (dc_X7_sent_0.1.1.1.1) rfl rfl ?_
  refine sg_ldc (pc := 1) (z := 65536) g (dc_X7_sent_0.1.1.1.2) cn_X7_128 (by decide) ?_
  refine sg_icmp_ge (pc := 3) (tgt := 16) (dc_X7_sent_0.1.1.2.1) (by decide) (fun c3 => ?_) (fun c3 => ?_)
  · refine sg_iconst (pc := 16) (z := 2) (dc_X7_sent_0.2.1.2.1) (by decide) ?_
    refine sg_newa (t := 100) (N := 2) (pc := 17) g (dc_X7_sent_0.2.1.2.2) ac_int rfl (by decide) (by decide) rfl rfl (by decide) (by omega) (by omega) (by omega) (by omega) ?_
    refine sg_dup (pc := 19) (dc_X7_sent_0.2.2.1.1) rfl ?_
    refine sg_iconst (pc := 20) (z := 0) (dc_X7_sent_0.2.2.1.2) (by decide) ?_
    refine sg_ldc (pc := 21) (z := 55296) g (dc_X7_sent_0.2.2.2.1) cn_X7_118 (by decide) ?_
    refine sg_iload_n (pc := 23) (j := 0) (dc_X7_sent_0.2.2.2.2) rfl rfl ?_
    refine sg_ldc (pc := 24) (z := 65536) g (dc_X7_sent_24.1.1.1.1) cn_X7_128 (by decide) ?_
    first | refine sg_isubB (pc := 26) (dc_X7_sent_24.1.1.1.2) (by omega) (by omega) ?_ | refine sg_isub (pc := 26) (dc_X7_sent_24.1.1.1.2) ?_
    refine sg_sipush (pc := 27) (z := 1024) (dc_X7_sent_24.1.1.2.1) (by decide) ?_
    first | refine sg_idivP (pc := 30) (dc_X7_sent_24.1.1.2.2) (by omega) (by omega) (by omega) ?_ | refine sg_idiv (pc := 30) (dc_X7_sent_24.1.1.2.2) (by first | omega | assumption) ?_
    first | refine sg_iaddB (pc := 31) (dc_X7_sent_24.1.2.1.1) (by omega) (by omega) ?_ | refine sg_iadd (pc := 31) (dc_X7_sent_24.1.2.1.1) ?_
    refine md_astF (pc := 32) (dc_X7_sent_24.1.2.1.2) (md_newF (c := 1)) (by rw [ck_v1]; omega) (by decide) (by first | decide | (rw [List.length_set]; decide)) (fun h32 t32 => ?_)
    refine sg_dup (pc := 33) (dc_X7_sent_24.1.2.2.1) rfl ?_
    refine sg_iconst (pc := 34) (z := 1) (dc_X7_sent_24.1.2.2.2) (by decide) ?_
    refine sg_ldc (pc := 35) (z := 56320) g (dc_X7_sent_24.2.1.1.1) cn_X7_120 (by decide) ?_
    refine sg_iload_n (pc := 37) (j := 0) (dc_X7_sent_24.2.1.1.2) rfl rfl ?_
    refine sg_ldc (pc := 38) (z := 65536) g (dc_X7_sent_24.2.1.2.1) cn_X7_128 (by decide) ?_
    first | refine sg_isubB (pc := 40) (dc_X7_sent_24.2.1.2.2) (by omega) (by omega) ?_ | refine sg_isub (pc := 40) (dc_X7_sent_24.2.1.2.2) ?_
    refine sg_sipush (pc := 41) (z := 1024) (dc_X7_sent_24.2.2.1.1) (by decide) ?_
    first | refine sg_iremP (pc := 44) (dc_X7_sent_24.2.2.1.2) (by omega) (by omega) ?_ | refine sg_irem (pc := 44) (dc_X7_sent_24.2.2.1.2) (by first | omega | assumption) ?_
    first | refine sg_iaddB (pc := 45) (dc_X7_sent_24.2.2.2.1) (by omega) (by omega) ?_ | refine sg_iadd (pc := 45) (dc_X7_sent_24.2.2.2.1) ?_
    refine md_astF (pc := 46) (dc_X7_sent_24.2.2.2.2) t32 (by rw [ck_v1]; omega) (by decide) (by first | decide | (rw [List.length_set]; decide)) (fun h46 t46 => ?_)
    refine sg_aret (pc := 47) dc_X7_sent_47 rfl (by first | exact Or.inl ⟨_, rfl⟩ | exact Or.inr ⟨_, rfl⟩) (by first | exact Nat.le_of_ble_eq_true rfl | omega) (by first | exact Nat.le_of_ble_eq_true rfl | omega) ?_
    first | exact hQ _ (md_Fw t12 (by unfold fs_sent; rw [if_neg (by omega)]; rfl)) | exact hQ _ (md_Fw t46 (by unfold fs_sent; rw [if_pos (by omega)]; rfl))
  · refine sg_iconst (pc := 6) (z := 1) (dc_X7_sent_0.1.1.2.2) (by decide) ?_
    refine sg_newa (t := 100) (N := 1) (pc := 7) g (dc_X7_sent_0.1.2.1.1) ac_int rfl (by decide) (by decide) rfl rfl (by decide) (by omega) (by omega) (by omega) (by omega) ?_
    refine sg_dup (pc := 9) (dc_X7_sent_0.1.2.1.2) rfl ?_
    refine sg_iconst (pc := 10) (z := 0) (dc_X7_sent_0.1.2.2.1) (by decide) ?_
    refine sg_iload_n (pc := 11) (j := 0) (dc_X7_sent_0.1.2.2.2) rfl rfl ?_
    refine md_astF (pc := 12) (dc_X7_sent_0.2.1.1.1) (md_newF (c := 1)) (by rw [ck_v1]; omega) (by decide) (by first | decide | (rw [List.length_set]; decide)) (fun h12 t12 => ?_)
    refine sg_goto (pc := 13) (tgt := 47) (dc_X7_sent_0.2.1.1.2) (by decide) ?_
    refine sg_aret (pc := 47) dc_X7_sent_47 rfl (by first | exact Or.inl ⟨_, rfl⟩ | exact Or.inr ⟨_, rfl⟩) (by first | exact Nat.le_of_ble_eq_true rfl | omega) (by first | exact Nat.le_of_ble_eq_true rfl | omega) ?_
    first | exact hQ _ (md_Fw t12 (by unfold fs_sent; rw [if_neg (by omega)]; rfl)) | exact hQ _ (md_Fw t46 (by unfold fs_sent; rw [if_pos (by omega)]; rfl))

theorem fn_db {x : Int} : 0 ≤ fn_digit x 16 ∧ fn_digit x 16 ≤ 255 := by
  unfold fn_digit
  (repeat' split) <;> omega

set_option maxRecDepth 100000 in
theorem f_X7_spelledOf {w : sg_W} {Q : sg_O → sg_H → Prop} {h : sg_H} (g : sg_G w) {d : Nat} (hd : 5 ≤ d) {c a : Nat} {L : List Int} (hA : md_X c h a L) (hn : L.length ≤ 100) (hs : ∀ z ∈ L, 0 ≤ z ∧ z ≤ 255) (hQ : ∀ h' : sg_H, md_F 3 h h' (fs_spell L) → Q (.inl (some (sg_r h.1))) h') : sg_C w mi_X7_spelledOf d 1 (2 * L.length) [sg_r a] h Q := by
  refine sg_of pn_X7 (Nat.le_of_ble_eq_true rfl) ?_
  obtain ⟨S, eS⟩ : ∃ S, S = fs_spell L := ⟨_, rfl⟩
  have lS : S.length = 2 * L.length := by rw [eS]; exact tt_len
  have gS : ∀ p : Int, 0 ≤ p → p < (S.length : Int) → S.getD p.toNat 0 = fs_sp L p.toNat := fun p p0 p1 => by rw [eS]; exact tt_get (by omega)
  refine sg_iconst (pc := 0) (z := 2) (dc_X7_spelledOf_0.1.1.1.1) (by decide) ?_
  refine sg_aload_n (pc := 1) (j := 0) (dc_X7_spelledOf_0.1.1.1.2) rfl rfl ?_
  refine md_xlen (pc := 2) (dc_X7_spelledOf_0.1.1.2.1) hA (by omega) ?_
  first | refine sg_imulB (pc := 3) (dc_X7_spelledOf_0.1.1.2.2) (by omega) (by omega) ?_ | refine sg_imul (pc := 3) (dc_X7_spelledOf_0.1.1.2.2) ?_
  refine sg_newa (t := 100) (N := (2 * L.length)) (pc := 4) g (dc_X7_spelledOf_0.1.2.1.1) ac_int rfl (by decide) (by decide) rfl rfl (by decide) (by omega) (by omega) (by omega) (by omega) ?_
  refine sg_astore_n (pc := 6) (j := 1) (dc_X7_spelledOf_0.1.2.1.2) rfl (by decide) ?_
  refine sg_iconst (pc := 7) (z := 0) (dc_X7_spelledOf_0.1.2.2.1) (by decide) ?_
  refine sg_istore_n (pc := 8) (j := 2) (dc_X7_spelledOf_0.1.2.2.2) rfl (by decide) ?_
  have loop9 : ∀ (N : Nat) (h1 : sg_H) (p : Int), (md_F 3 h h1 (fx S p.toNat)) → (0 ≤ p) → ((S.length : Int) - p).toNat < N → sg_R w mi_X7_spelledOf d 1 (2 * L.length) Q 9 [(2, sg_i p), (0, sg_r a), (1, sg_r h.1)] [] h1 1 (0 + (2 * L.length)) := by
    intro N
    induction N with
    | zero => intro h1 p t1 p0 hm; exact absurd hm (Nat.not_lt_zero _)
    | succ N ih =>
      intro h1 p t1 p0 hm
      refine sg_iload_n (pc := 9) (j := 2) (dc_X7_spelledOf_0.2.1.1.1) rfl rfl ?_
      refine sg_aload_n (pc := 10) (j := 1) (dc_X7_spelledOf_0.2.1.1.2) rfl rfl ?_
      refine md_xlen (pc := 11) (dc_X7_spelledOf_0.2.1.2.1) (md_FX t1) (by rw [fx_len]; omega) ?_
      rw [fx_len]
      refine sg_icmp_ge (pc := 12) (tgt := 54) (dc_X7_spelledOf_0.2.1.2.2) (by decide) (fun c12 => ?_) (fun c12 => ?_)
      · refine sg_aload_n (pc := 54) (j := 1) (dc_X7_spelledOf_41.2.2.1) rfl rfl ?_
        refine sg_aret (pc := 55) (dc_X7_spelledOf_41.2.2.2) rfl (by first | exact Or.inl ⟨_, rfl⟩ | exact Or.inr ⟨_, rfl⟩) (by first | exact Nat.le_of_ble_eq_true rfl | omega) (by first | exact Nat.le_of_ble_eq_true rfl | omega) ?_
        exact hQ _ (md_Fw t1 ((fx_e (by omega)).trans eS))
      · refine sg_aload_n (pc := 15) (j := 1) (dc_X7_spelledOf_0.2.2.1.1) rfl rfl ?_
        refine sg_iload_n (pc := 16) (j := 2) (dc_X7_spelledOf_0.2.2.1.2) rfl rfl ?_
        refine sg_iload_n (pc := 17) (j := 2) (dc_X7_spelledOf_0.2.2.2.1) rfl rfl ?_
        refine sg_iconst (pc := 18) (z := 2) (dc_X7_spelledOf_0.2.2.2.2) (by decide) ?_
        first | refine sg_iremP (pc := 19) (dc_X7_spelledOf_19.1.1.1.1) (by omega) (by omega) ?_ | refine sg_irem (pc := 19) (dc_X7_spelledOf_19.1.1.1.1) (by first | omega | assumption) ?_
        refine sg_if_ne (pc := 20) (tgt := 34) (dc_X7_spelledOf_19.1.1.1.2) (by decide) (fun c20 => ?_) (fun c20 => ?_)
        · refine sg_aload_n (pc := 34) (j := 0) (dc_X7_spelledOf_19.2.1.2.1) rfl rfl ?_
          refine sg_iload_n (pc := 35) (j := 2) (dc_X7_spelledOf_19.2.1.2.2) rfl rfl ?_
          refine sg_iconst (pc := 36) (z := 2) (dc_X7_spelledOf_19.2.2.1.1) (by decide) ?_
          first | refine sg_idivP (pc := 37) (dc_X7_spelledOf_19.2.2.1.2) (by omega) (by omega) (by omega) ?_ | refine sg_idiv (pc := 37) (dc_X7_spelledOf_19.2.2.1.2) (by first | omega | assumption) ?_
          refine md_xld (pc := 38) (dc_X7_spelledOf_19.2.2.2.1) (md_XE hA (md_FE t1)) (by omega) (by omega) (fun g38 => ?_)
          have r38 := hs _ (gd_mem (L := L) (j := (p / 2).toNat) (d := 0) (by omega))
          refine sg_bipush (pc := 39) (z := 16) (dc_X7_spelledOf_19.2.2.2.2) (by decide) ?_
          first | refine sg_iremP (pc := 41) (dc_X7_spelledOf_41.1.1.1) (by omega) (by omega) ?_ | refine sg_irem (pc := 41) (dc_X7_spelledOf_41.1.1.1) (by first | omega | assumption) ?_
          refine sg_bipush (pc := 42) (z := 16) (dc_X7_spelledOf_41.1.1.2) (by decide) ?_
          refine sg_cS2 (pc := 44) (d' := d - 1) (mc' := 0) (ms' := 0) g (dc_X7_spelledOf_41.1.2.1) cb_X7_digitOf ml_X7_108 ms_X7_digitOf (Nat.le_of_ble_eq_true rfl) (by first | exact jl_d0 hd rfl | omega) (by first | exact Nat.le_of_ble_eq_true rfl | omega) (by first | exact Nat.le_of_ble_eq_true rfl | omega) ?_
          refine s_X7_digitOf g (by first | exact jl_d1 hd rfl | omega) (fun z44 h44 => sg_K1 ?_)
          have e47 : z44 = S.getD p.toNat 0 := by
            rw [gS p (by omega) (by omega), h44]
            unfold fs_sp
            rw [if_neg (by omega), show p.toNat / 2 = (p / 2).toNat by omega]
          refine md_astF (pc := 47) (dc_X7_spelledOf_41.1.2.2) t1 (by rw [ck_v3]; have hb := fn_db (x := L.getD (p / 2).toNat 0 % 16); rw [← h44] at hb; exact hb) (by omega) (by rw [fx_len]; omega) (fun h47 t47 => ?_)
          first | refine sg_iincB (pc := 48) (dc_X7_spelledOf_41.2.1.1) rfl (by decide) (by decide) (by omega) (by omega) ?_ | refine sg_iinc (pc := 48) (dc_X7_spelledOf_41.2.1.1) rfl (by decide) (by decide) ?_
          refine sg_goto (pc := 51) (tgt := 9) (dc_X7_spelledOf_41.2.1.2) (by decide) ?_
          refine sg_lsub (lv' := [(2, _), (0, _), (1, _)]) ⟨rfl, rfl, rfl, trivial⟩ ?_
          exact ih _ _ (md_Fw t47 (fx_s (by omega) (by omega) rfl e47)) (by omega) (by first | exact jl_m1 hm (by omega) | exact jl_m2 hm (by omega) | omega)
        · refine sg_aload_n (pc := 23) (j := 0) (dc_X7_spelledOf_19.1.1.2.1) rfl rfl ?_
          refine sg_iload_n (pc := 24) (j := 2) (dc_X7_spelledOf_19.1.1.2.2) rfl rfl ?_
          refine sg_iconst (pc := 25) (z := 2) (dc_X7_spelledOf_19.1.2.1.1) (by decide) ?_
          first | refine sg_idivP (pc := 26) (dc_X7_spelledOf_19.1.2.1.2) (by omega) (by omega) (by omega) ?_ | refine sg_idiv (pc := 26) (dc_X7_spelledOf_19.1.2.1.2) (by first | omega | assumption) ?_
          refine md_xld (pc := 27) (dc_X7_spelledOf_19.1.2.2.1) (md_XE hA (md_FE t1)) (by omega) (by omega) (fun g27 => ?_)
          have r27 := hs _ (gd_mem (L := L) (j := (p / 2).toNat) (d := 0) (by omega))
          refine sg_bipush (pc := 28) (z := 16) (dc_X7_spelledOf_19.1.2.2.2) (by decide) ?_
          first | refine sg_idivP (pc := 30) (dc_X7_spelledOf_19.2.1.1.1) (by omega) (by omega) (by omega) ?_ | refine sg_idiv (pc := 30) (dc_X7_spelledOf_19.2.1.1.1) (by first | omega | assumption) ?_
          refine sg_goto (pc := 31) (tgt := 42) (dc_X7_spelledOf_19.2.1.1.2) (by decide) ?_
          refine sg_bipush (pc := 42) (z := 16) (dc_X7_spelledOf_41.1.1.2) (by decide) ?_
          refine sg_cS2 (pc := 44) (d' := d - 1) (mc' := 0) (ms' := 0) g (dc_X7_spelledOf_41.1.2.1) cb_X7_digitOf ml_X7_108 ms_X7_digitOf (Nat.le_of_ble_eq_true rfl) (by first | exact jl_d0 hd rfl | omega) (by first | exact Nat.le_of_ble_eq_true rfl | omega) (by first | exact Nat.le_of_ble_eq_true rfl | omega) ?_
          refine s_X7_digitOf g (by first | exact jl_d1 hd rfl | omega) (fun z44 h44 => sg_K1 ?_)
          have e47 : z44 = S.getD p.toNat 0 := by
            rw [gS p (by omega) (by omega), h44]
            unfold fs_sp
            rw [if_pos (by omega), show p.toNat / 2 = (p / 2).toNat by omega]
          refine md_astF (pc := 47) (dc_X7_spelledOf_41.1.2.2) t1 (by rw [ck_v3]; have hb := fn_db (x := L.getD (p / 2).toNat 0 / 16); rw [← h44] at hb; exact hb) (by omega) (by rw [fx_len]; omega) (fun h47 t47 => ?_)
          first | refine sg_iincB (pc := 48) (dc_X7_spelledOf_41.2.1.1) rfl (by decide) (by decide) (by omega) (by omega) ?_ | refine sg_iinc (pc := 48) (dc_X7_spelledOf_41.2.1.1) rfl (by decide) (by decide) ?_
          refine sg_goto (pc := 51) (tgt := 9) (dc_X7_spelledOf_41.2.1.2) (by decide) ?_
          refine sg_lsub (lv' := [(2, _), (0, _), (1, _)]) ⟨rfl, rfl, rfl, trivial⟩ ?_
          exact ih _ _ (md_Fw t47 (fx_s (by omega) (by omega) rfl e47)) (by omega) (by first | exact jl_m1 hm (by omega) | exact jl_m2 hm (by omega) | omega)
  refine sg_lsub (lv' := [(2, _), (0, _), (1, _)]) ⟨rfl, rfl, rfl, trivial⟩ ?_
  exact loop9 _ _ _ (md_Fw md_newF (fx_0 rfl lS)) (by omega) (Nat.lt_succ_self _)

set_option maxRecDepth 100000 in
theorem f_X7_only {w : sg_W} {Q : sg_O → sg_H → Prop} {h : sg_H} (g : sg_G w) {d : Nat} (hd : 4 ≤ d) {c a s : Nat} {L : List Int} {P : Int → Bool} (hA : md_X c h a L) (hS : md_ZP h s L P) (hN : L.length ≤ 40) (hQ : ∀ (h' : sg_H) (b : Nat), md_E h h' → md_X c h' b (L.filter P) → Q (.inl (some (sg_r b))) h') : sg_C w mi_X7_only d 81 1680 [sg_r a, sg_r s] h Q := by
  refine sg_of pn_X7 (Nat.le_of_ble_eq_true rfl) ?_
  refine sg_iconst (pc := 0) (z := 0) (dc_X7_only_0.1.1.1.1) (by decide) ?_
  refine sg_newa (t := 100) (N := 0) (pc := 1) g (dc_X7_only_0.1.1.1.2) ac_int rfl (by decide) (by decide) rfl rfl (by decide) (by omega) (by omega) (by omega) (by omega) ?_
  refine sg_astore_n (pc := 3) (j := 2) (dc_X7_only_0.1.1.2.1) rfl (by decide) ?_
  refine sg_iconst (pc := 4) (z := 0) (dc_X7_only_0.1.1.2.2) (by decide) ?_
  refine sg_istore_n (pc := 5) (j := 3) (dc_X7_only_0.1.2.1.1) rfl (by decide) ?_
  have loop6 : ∀ (N : Nat) (h1 : sg_H) (p : Int) (b k1 n1 : Nat), (md_E h h1) → (md_X c h1 b (fs_F P L p)) → (0 ≤ p ∧ p ≤ (L.length : Int)) → ((k1 : Int) ≤ 1 + 2 * p) → ((n1 : Int) ≤ 42 * p) → ((L.length : Int) - p).toNat < N → sg_R w mi_X7_only d 81 1680 Q 6 [(3, sg_i p), (0, sg_r a), (1, sg_r s), (2, sg_r b)] [] h1 k1 n1 := by
    intro N
    induction N with
    | zero => intro h1 p b k1 n1 E1 X1 p0 kb nb hm; exact absurd hm (Nat.not_lt_zero _)
    | succ N ih =>
      intro h1 p b k1 n1 E1 X1 p0 kb nb hm
      have fl := fs_Fl (P := P) (L := L) (p := p)
      refine sg_iload_n (pc := 6) (j := 3) (dc_X7_only_0.1.2.1.2) rfl rfl ?_
      refine sg_aload_n (pc := 7) (j := 0) (dc_X7_only_0.1.2.2.1) rfl rfl ?_
      refine md_xlen (pc := 8) (dc_X7_only_0.1.2.2.2) (md_XE hA E1) (by omega) ?_
      refine sg_icmp_ge (pc := 9) (tgt := 38) (dc_X7_only_0.2.1.1.1) (by decide) (fun c9 => ?_) (fun c9 => ?_)
      · refine sg_aload_n (pc := 38) (j := 2) (dc_X7_only_22.2.1.2.1) rfl rfl ?_
        refine sg_aret (pc := 39) (dc_X7_only_22.2.1.2.2) rfl (by first | exact Or.inl ⟨_, rfl⟩ | exact Or.inr ⟨_, rfl⟩) (by first | exact Nat.le_of_ble_eq_true rfl | omega) (by first | exact Nat.le_of_ble_eq_true rfl | omega) ?_
        have e9 := fs_Fn (P := P) (L := L) (p := p) (by omega)
        exact hQ _ _ E1 (by rw [← e9]; exact X1)
      · refine sg_aload_n (pc := 12) (j := 1) (dc_X7_only_0.2.1.1.2) rfl rfl ?_
        refine sg_iload_n (pc := 13) (j := 3) (dc_X7_only_0.2.1.2.1) rfl rfl ?_
        refine md_zpl (pc := 14) (dc_X7_only_0.2.1.2.2) (md_ZPE hS E1) (by omega) (by omega) (fun x14 e14 => ?_)
        refine sg_if_eq (pc := 15) (tgt := 32) (dc_X7_only_0.2.2.1.1) (by decide) (fun c15 => ?_) (fun c15 => ?_)
        · first | refine sg_iincB (pc := 32) (dc_X7_only_22.2.1.1.1) rfl (by decide) (by decide) (by omega) (by omega) ?_ | refine sg_iinc (pc := 32) (dc_X7_only_22.2.1.1.1) rfl (by decide) (by decide) ?_
          refine sg_goto (pc := 35) (tgt := 6) (dc_X7_only_22.2.1.1.2) (by decide) ?_
          refine sg_lsub (lv' := [(3, _), (0, _), (1, _), (2, _)]) ⟨rfl, rfl, rfl, rfl, trivial⟩ ?_
          exact ih _ _ _ _ _ E1 (by rw [fs_Fs (by omega) (by omega), if_neg (fun q => absurd (e14.mpr q) (by omega)), List.append_nil]; exact X1) (by omega) (by omega) (by omega) (by first | exact jl_m1 hm (by omega) | exact jl_m2 hm (by omega) | omega)
        · refine sg_aload_n (pc := 18) (j := 2) (dc_X7_only_0.2.2.1.2) rfl rfl ?_
          refine sg_iconst (pc := 19) (z := 1) (dc_X7_only_0.2.2.2.1) (by decide) ?_
          refine sg_newa (t := 100) (N := 1) (pc := 20) g (dc_X7_only_0.2.2.2.2) ac_int rfl (by decide) (by decide) rfl rfl (by decide) (by omega) (by omega) (by omega) (by omega) ?_
          refine sg_dup (pc := 22) (dc_X7_only_22.1.1.1.1) rfl ?_
          refine sg_iconst (pc := 23) (z := 0) (dc_X7_only_22.1.1.1.2) (by decide) ?_
          refine sg_aload_n (pc := 24) (j := 0) (dc_X7_only_22.1.1.2.1) rfl rfl ?_
          refine sg_iload_n (pc := 25) (j := 3) (dc_X7_only_22.1.1.2.2) rfl rfl ?_
          refine md_xld (pc := 26) (dc_X7_only_22.1.2.1.1) (md_XE hA (md_Et E1 (md_FE (md_newF (c := c))))) (by omega) (by omega) (fun g26 => ?_)
          refine md_astF (pc := 27) (dc_X7_only_22.1.2.1.2) (md_newF (c := c)) g26 (by decide) (by decide) (fun h27 t27 => ?_)
          have t27 : md_F c h1 h27 [L.getD p.toNat 0] := t27
          have l27 : [L.getD p.toNat 0].length = 1 := rfl
          refine sg_cS2 (pc := 28) (d' := d - 1) (mc' := 1) (ms' := ((fs_F P L p).length + [L.getD p.toNat 0].length)) g (dc_X7_only_22.1.2.2.1) cb_X7_joined ml_X7_61 ms_X7_joined (Nat.le_of_ble_eq_true rfl) (by first | exact jl_d0 hd rfl | omega) (by first | exact Nat.le_of_ble_eq_true rfl | omega) (by first | exact Nat.le_of_ble_eq_true rfl | omega) ?_
          refine f_X7_joined (L := fs_F P L p) (M := [L.getD p.toNat 0]) g (by first | exact jl_d1 hd rfl | omega) (md_XE X1 (md_FE t27)) (md_FX t27) (by omega) (by omega) (fun h28 t28 => sg_K1 ?_)
          have E28 := md_Et E1 (md_Et (md_FE t27) (md_FE t28))
          have X28 := md_FX t28
          have bk := fs_Fs (P := P) (L := L) (p := p) (by omega) (by omega)
          rw [if_pos (e14.mp c15)] at bk
          have X29 : md_X c h28 h27.1 (fs_F P L (p + 1)) := by rw [bk]; exact X28
          have bl : (fs_F P L (p + 1)).length = (fs_F P L p).length + 1 := by rw [bk, List.length_append]; rfl
          refine sg_astore_n (pc := 31) (j := 2) (dc_X7_only_22.1.2.2.2) rfl (by decide) ?_
          first | refine sg_iincB (pc := 32) (dc_X7_only_22.2.1.1.1) rfl (by decide) (by decide) (by omega) (by omega) ?_ | refine sg_iinc (pc := 32) (dc_X7_only_22.2.1.1.1) rfl (by decide) (by decide) ?_
          refine sg_goto (pc := 35) (tgt := 6) (dc_X7_only_22.2.1.1.2) (by decide) ?_
          refine sg_lsub (lv' := [(3, _), (0, _), (1, _), (2, _)]) ⟨rfl, rfl, rfl, rfl, trivial⟩ ?_
          exact ih _ _ _ _ _ E28 X29 (by omega) (by omega) (by omega) (by first | exact jl_m1 hm (by omega) | exact jl_m2 hm (by omega) | omega)
  refine sg_lsub (lv' := [(3, _), (0, _), (1, _), (2, _)]) ⟨rfl, rfl, rfl, rfl, trivial⟩ ?_
  exact loop6 _ _ _ _ _ _ (md_FE (md_newF (c := c))) (md_FX md_newF) (by omega) (by omega) (by omega) (Nat.lt_succ_self _)

set_option maxRecDepth 100000 in
set_option maxHeartbeats 400000 in
theorem f_X7_sieve {w : sg_W} {Q : sg_O → sg_H → Prop} {h : sg_H} (g : sg_G w) {d : Nat} (hd : 9 ≤ d) {M : Nat} {row kind isx : Int} {A : fa_A} {L : List Int} (hA : md_ab h M = A) (hL : fa_L A row.toNat = L) (ok : fa_ok A) (hx : md_M w h M) (hQ : ∀ (v : Int) (h' : sg_H), ((row < 0 ∨ 4 ≤ row) → md_t h' M = 1) → (¬ (row < 0 ∨ 4 ≤ row) → (kind < 0 ∨ 4 < kind) → md_t h' M = 2) → (¬ (row < 0 ∨ 4 ≤ row) → ¬ (kind < 0 ∨ 4 < kind) → md_t h' M = 0) → (md_t h' M = 0 → v = (L.length : Int) - ((L.filter (fs_is kind isx)).length : Int) ∧ md_ab h' M = fa_put A row.toNat (L.filter (fs_is kind isx))) → (md_t h' M ≠ 0 → md_ab h' M = A) → md_W w h h' M → Q (.inl (some (sg_i v))) h') : sg_C w mi_X7_sieve d 84 1736 [sg_r M, sg_i row, sg_i kind, sg_i isx] h Q := by
  refine sg_of pn_X7 (Nat.le_of_ble_eq_true rfl) ?_
  have y0 := md_Y0 hx
  have hk := hx.2.1
  refine sg_aload_n (pc := 0) (j := 0) (dc_X7_sieve_0.1.1.1.1) rfl rfl ?_
  refine sg_iload_n (pc := 1) (j := 1) (dc_X7_sieve_0.1.1.1.2) rfl rfl ?_
  refine sg_cS1 (pc := 2) (d' := d - 1) (mc' := 0) (ms' := 0) g (dc_X7_sieve_0.1.1.2.1) cb_X7_isNoRow ml_X7_68 ms_X7_isNoRow (Nat.le_of_ble_eq_true rfl) (by first | exact jl_d0 hd rfl | omega) (by first | exact Nat.le_of_ble_eq_true rfl | omega) (by first | exact Nat.le_of_ble_eq_true rfl | omega) ?_
  refine s_X7_isNoRow g (by first | exact jl_d1 hd rfl | omega) (fun z2 h2 b2 => sg_K1 ?_)
  (try simp only [fm_no, fm_one, fn_betw, fn_sign, fn_radix, fn_high, fn_low, if_true, if_false] at h2)
  refine sg_iconst (pc := 5) (z := 1) (dc_X7_sieve_0.1.1.2.2) (by decide) ?_
  refine sg_cE2 (pc := 6) (d' := d - 1) (mc' := 0) (ms' := 0) 8 g (dc_X7_sieve_0.1.2.1.1) cb_X7_start ml_X7_71 mn_X7_start rfl mv_X7_start (Nat.le_of_ble_eq_true rfl) (md_oc (by assumption)) (Nat.le_of_ble_eq_true rfl) (by first | exact jl_d0 hd rfl | omega) (by first | exact Nat.le_of_ble_eq_true rfl | omega) (by first | exact Nat.le_of_ble_eq_true rfl | omega) ?_
  refine s_X7_start g (by first | exact jl_d1 hd rfl | omega) (by omega) (by assumption) (fun v6 h6 b6 i6 t6 s6 u6 y6 => sg_K1 ?_)
  have x6 := y6.1
  have hk6 := x6.2.1
  have y6 := md_Yt (h0 := h) (by assumption) y6
  refine sg_if_ne (pc := 9) (tgt := 24) (dc_X7_sieve_0.1.2.1.2) (by decide) (fun c9 => ?_) (fun c9 => ?_)
  · refine sg_iconst (pc := 24) (z := 0) (dc_X7_sieve_0.2.2.1.1) (by decide) ?_
    refine sg_iret (pc := 25) (dc_X7_sieve_0.2.2.1.2) rfl (by first | exact Nat.le_of_ble_eq_true rfl | omega) (by first | exact Nat.le_of_ble_eq_true rfl | omega) ?_
    exact hQ _ _ (by omega) (by omega) (by omega) (fun q => absurd q (by omega)) (fun _ => md_Ya (by assumption) hA) (md_YW (by assumption))
  · refine sg_aload_n (pc := 12) (j := 0) (dc_X7_sieve_0.1.2.2.1) rfl rfl ?_
    refine sg_iload_n (pc := 13) (j := 2) (dc_X7_sieve_0.1.2.2.2) rfl rfl ?_
    refine sg_cS1 (pc := 14) (d' := d - 1) (mc' := 0) (ms' := 0) g (dc_X7_sieve_0.2.1.1.1) cb_X7_isNoKind ml_X7_100 ms_X7_isNoKind (Nat.le_of_ble_eq_true rfl) (by first | exact jl_d0 hd rfl | omega) (by first | exact Nat.le_of_ble_eq_true rfl | omega) (by first | exact Nat.le_of_ble_eq_true rfl | omega) ?_
    refine s_X7_isNoKind g (by first | exact jl_d1 hd rfl | omega) (fun z14 h14 b14 => sg_K1 ?_)
    (try simp only [fm_no, fm_one, fn_betw, fn_sign, fn_radix, fn_high, fn_low, if_true, if_false] at h14)
    refine sg_iconst (pc := 17) (z := 2) (dc_X7_sieve_0.2.1.1.2) (by decide) ?_
    refine sg_cE2 (pc := 18) (d' := d - 1) (mc' := 0) (ms' := 0) 8 g (dc_X7_sieve_0.2.1.2.1) cb_X7_refuse ml_X7_45 mn_X7_refuse rfl mv_X7_refuse (Nat.le_of_ble_eq_true rfl) (md_oc (by assumption)) (Nat.le_of_ble_eq_true rfl) (by first | exact jl_d0 hd rfl | omega) (by first | exact Nat.le_of_ble_eq_true rfl | omega) (by first | exact Nat.le_of_ble_eq_true rfl | omega) ?_
    refine s_X7_refuse g (by first | exact jl_d1 hd rfl | omega) (by omega) (by assumption) (fun v18 h18 b18 i18 t18 s18 u18 y18 => sg_K1 ?_)
    have x18 := y18.1
    have hk18 := x18.2.1
    have y18 := md_Yt (h0 := h) (by assumption) y18
    refine sg_if_eq (pc := 21) (tgt := 26) (dc_X7_sieve_0.2.1.2.2) (by decide) (fun c21 => ?_) (fun c21 => ?_)
    · obtain ⟨S, eS⟩ : ∃ S, S = (L.map (fun u => if fs_is kind isx u = true then (1 : Int) else 0)) := ⟨_, rfl⟩
      have lS : S.length = L.length := by rw [eS, List.length_map]
      have gS : ∀ p : Int, 0 ≤ p → p < (L.length : Int) → S.getD p.toNat 0 = if fs_is kind isx (L.getD p.toNat 0) = true then (1 : Int) else 0 := fun p p0 p1 => by rw [eS, gd_in (by rw [List.length_map]; omega), List.getElem_map, gd_in (by omega)]
      refine sg_aload_n (pc := 26) (j := 0) (dc_X7_sieve_0.2.2.2.1) rfl rfl ?_
      refine md_grw (pc := 27) g (dc_X7_sieve_0.2.2.2.2) fk_X7_9 (by assumption) (fun r27 => ?_)
      refine sg_iload_n (pc := 30) (j := 1) (dc_X7_sieve_30.1.1.1.1) rfl rfl ?_
      first | refine md_alX (pc := 31) (dc_X7_sieve_30.1.1.1.2) hA (by assumption) (by assumption) (by omega) (by omega) (fun X31 l31 => ?_) | refine md_alXt (pc := 31) (dc_X7_sieve_30.1.1.1.2) hA (by assumption) (by assumption) (by omega) (by omega) (fun X31 l31 => ?_)
      refine md_xlen (pc := 32) (dc_X7_sieve_30.1.1.2.1) (by assumption) (by omega) ?_
      refine sg_newa (t := 101) (N := L.length) (pc := 33) g (dc_X7_sieve_30.1.1.2.2) ac_boolean rfl (by decide) (by decide) rfl rfl (by decide) (by omega) (by omega) (by omega) (by omega) ?_
      refine sg_astore (pc := 35) (dc_X7_sieve_30.1.2.1.1) (by decide) ?_
      refine sg_iconst (pc := 37) (z := 0) (dc_X7_sieve_30.1.2.1.2) (by decide) ?_
      refine sg_istore (pc := 38) (dc_X7_sieve_30.1.2.2.1) (by decide) ?_
      have loop40 : ∀ (N : Nat) (h1 : sg_H) (p : Int), (md_G h18 h1 (fx S p.toNat)) → (0 ≤ p ∧ p ≤ (L.length : Int)) → ((L.length : Int) - p).toNat < N → sg_R w mi_X7_sieve d 84 1736 Q 40 [(5, sg_i p), (0, sg_r M), (1, sg_i row), (2, sg_i kind), (3, sg_i isx), (4, sg_r h18.1)] [] h1 1 (0 + L.length) := by
        intro N
        induction N with
        | zero => intro h1 p t1 p0 hm; exact absurd hm (Nat.not_lt_zero _)
        | succ N ih =>
          intro h1 p t1 p0 hm
          have x1 : md_M w h1 M := md_ME x18 (md_GE t1)
          have hk1 := x1.2.1
          have y1 : md_Y w h h1 M := md_YE y18 (md_GE t1)
          have th1 := md_tE (w := w) (M := M) x18 (md_GE t1)
          refine sg_iload (pc := 40) (dc_X7_sieve_30.1.2.2.2) rfl ?_
          refine sg_aload (pc := 42) (dc_X7_sieve_30.2.1.1.1) rfl ?_
          refine md_glen (pc := 44) (dc_X7_sieve_30.2.1.1.2) t1 (by rw [fx_len]; omega) ?_
          rw [fx_len, lS]
          refine sg_icmp_ge (pc := 45) (tgt := 81) (dc_X7_sieve_30.2.1.2.1) (by decide) (fun c45 => ?_) (fun c45 => ?_)
          · have eS1 := fx_e (S := S) (k := p.toNat) (by omega)
            have ZP : md_ZP h1 h18.1 L (fs_is kind isx) := md_GZ t1 (by rw [fx_len, lS]) (fun j hj => by
              rw [eS1, eS, gd_in (by rw [List.length_map]; exact hj), List.getElem_map, gd_in hj]
              split
              · rename_i q; exact ⟨fun _ => q, fun _ => by decide⟩
              · rename_i q; exact ⟨fun r => absurd rfl r, fun r => absurd r q⟩)
            refine sg_aload (pc := 81) (dc_X7_sieve_57.2.2.1.2) rfl ?_
            refine md_glen (pc := 83) (dc_X7_sieve_57.2.2.2.1) t1 (by rw [fx_len]; omega) ?_
            rw [fx_len, lS]
            refine sg_istore (pc := 84) (dc_X7_sieve_57.2.2.2.2) (by decide) ?_
            refine sg_iload (pc := 86) (dc_X7_sieve_86.1.1.1.1) rfl ?_
            refine sg_aload_n (pc := 88) (j := 0) (dc_X7_sieve_86.1.1.1.2) rfl rfl ?_
            refine sg_iload_n (pc := 89) (j := 1) (dc_X7_sieve_86.1.1.2.1) rfl rfl ?_
            refine sg_aload_n (pc := 90) (j := 0) (dc_X7_sieve_86.1.1.2.2) rfl rfl ?_
            refine md_grw (pc := 91) g (dc_X7_sieve_86.1.2.1.1) fk_X7_9 (by assumption) (fun r91 => ?_)
            refine sg_iload_n (pc := 94) (j := 1) (dc_X7_sieve_86.1.2.1.2) rfl rfl ?_
            first | refine md_alX (pc := 95) (dc_X7_sieve_86.1.2.2.1) hA (by assumption) (by assumption) (by omega) (by omega) (fun X95 l95 => ?_) | refine md_alXt (pc := 95) (dc_X7_sieve_86.1.2.2.1) hA (by assumption) (by assumption) (by omega) (by omega) (fun X95 l95 => ?_)
            refine sg_aload (pc := 96) (dc_X7_sieve_86.1.2.2.2) rfl ?_
            refine sg_cS2 (pc := 98) (d' := d - 1) (mc' := 81) (ms' := 1680) g (dc_X7_sieve_86.2.1.1.1) cb_X7_only ml_X7_74 ms_X7_only (Nat.le_of_ble_eq_true rfl) (by first | exact jl_d0 hd rfl | omega) (by first | exact Nat.le_of_ble_eq_true rfl | omega) (by first | exact Nat.le_of_ble_eq_true rfl | omega) ?_
            refine f_X7_only (c := 0) g (by first | exact jl_d1 hd rfl | omega) X95 ZP (by omega) (fun h98 b98 E98 X98 => sg_K1 ?_)
            have x98 : md_M w h98 M := md_ME (by assumption) E98
            have th98 := md_tE (w := w) (M := M) (by assumption) E98
            have hk98 := x98.2.1
            have y98 : md_Y w h h98 M := md_YE (by assumption) E98
            have fl9 := List.length_filter_le (fs_is kind isx) L
            refine sg_cE2 (pc := 101) (d' := d - 1) (mc' := 2) (ms' := 16) 8 g (dc_X7_sieve_86.2.1.1.2) cb_X7_set ml_X7_78 mn_X7_set rfl mv_X7_set (Nat.le_of_ble_eq_true rfl) (md_oc (by assumption)) (Nat.le_of_ble_eq_true rfl) (by first | exact jl_d0 hd rfl | omega) (by first | exact Nat.le_of_ble_eq_true rfl | omega) (by first | exact Nat.le_of_ble_eq_true rfl | omega) ?_
            refine s_X7_set g (by first | exact jl_d1 hd rfl | omega) (by omega) (by assumption) (fun q => ⟨md_XA X98, by first | omega | (simp only [List.length_take, List.length_reverse, List.length_map, List.length_append, tt_len]; omega)⟩) (fun q => absurd q (by omega)) (fun h101 y101 t101 ab101 => sg_K1 ?_)
            rw [md_Ya y98 hA, md_xl X98] at ab101
            have x101 := y101.1
            have hk101 := x101.2.1
            have z101 : md_W w h h101 M := md_Wt y98 y101
            first | refine sg_isubB (pc := 104) (dc_X7_sieve_86.2.1.2.1) (by omega) (by omega) ?_ | refine sg_isub (pc := 104) (dc_X7_sieve_86.2.1.2.1) ?_
            refine sg_iret (pc := 105) (dc_X7_sieve_86.2.1.2.2) rfl (by first | exact Nat.le_of_ble_eq_true rfl | omega) (by first | exact Nat.le_of_ble_eq_true rfl | omega) ?_
            exact hQ _ _ (by omega) (by omega) (by omega) (fun _ => ⟨rfl, ab101⟩) (fun q => absurd (by omega) q) z101
          · refine sg_aload (pc := 48) (dc_X7_sieve_30.2.1.2.2) rfl ?_
            refine sg_iload (pc := 50) (dc_X7_sieve_30.2.2.1.1) rfl ?_
            refine sg_aload_n (pc := 52) (j := 0) (dc_X7_sieve_30.2.2.1.2) rfl rfl ?_
            refine md_grw (pc := 53) g (dc_X7_sieve_30.2.2.2.1) fk_X7_9 (by assumption) (fun r53 => ?_)
            refine sg_iload_n (pc := 56) (j := 1) (dc_X7_sieve_30.2.2.2.2) rfl rfl ?_
            first | refine md_alX (pc := 57) (dc_X7_sieve_57.1.1.1.1) hA (by assumption) (by assumption) (by omega) (by omega) (fun X57 l57 => ?_) | refine md_alXt (pc := 57) (dc_X7_sieve_57.1.1.1.1) hA (by assumption) (by assumption) (by omega) (by omega) (fun X57 l57 => ?_)
            refine sg_iload (pc := 58) (dc_X7_sieve_57.1.1.1.2) rfl ?_
            refine md_xld (pc := 60) (dc_X7_sieve_57.1.1.2.1) (by assumption) (by omega) (by omega) (fun g60 => ?_)
            refine sg_iload_n (pc := 61) (j := 2) (dc_X7_sieve_57.1.1.2.2) rfl rfl ?_
            refine sg_cS2 (pc := 62) (d' := d - 1) (mc' := 0) (ms' := 0) g (dc_X7_sieve_57.1.2.1.1) cb_X7_isKind ml_X7_26 ms_X7_isKind (Nat.le_of_ble_eq_true rfl) (by first | exact jl_d0 hd rfl | omega) (by first | exact Nat.le_of_ble_eq_true rfl | omega) (by first | exact Nat.le_of_ble_eq_true rfl | omega) ?_
            refine s_X7_isKind g (by first | exact jl_d1 hd rfl | omega) (by assumption) (by omega) (by omega) (fun z62 e62 b62 => sg_K1 ?_)
            refine sg_iload_n (pc := 65) (j := 3) (dc_X7_sieve_57.1.2.1.2) rfl rfl ?_
            refine sg_icmp_ne (pc := 66) (tgt := 73) (dc_X7_sieve_57.1.2.2.1) (by decide) (fun c66 => ?_) (fun c66 => ?_)
            · refine sg_iconst (pc := 73) (z := 0) (dc_X7_sieve_57.2.1.1.2) (by decide) ?_
              have e74 : (0 : Int) = S.getD p.toNat 0 := by
                rw [gS p (by omega) (by omega), if_neg (fun q => by have := of_decide_eq_true q; omega)]
              refine md_gst (pc := 74) (dc_X7_sieve_57.2.1.2.1) t1 (by decide) (by omega) (by rw [fx_len]; omega) (fun h74 t74 => ?_)
              first | refine sg_iincB (pc := 75) (dc_X7_sieve_57.2.1.2.2) rfl (by decide) (by decide) (by omega) (by omega) ?_ | refine sg_iinc (pc := 75) (dc_X7_sieve_57.2.1.2.2) rfl (by decide) (by decide) ?_
              refine sg_goto (pc := 78) (tgt := 40) (dc_X7_sieve_57.2.2.1.1) (by decide) ?_
              refine sg_lsub (lv' := [(5, _), (0, _), (1, _), (2, _), (3, _), (4, _)]) ⟨rfl, rfl, rfl, rfl, rfl, rfl, trivial⟩ ?_
              exact ih _ _ (md_Gw t74 (fx_s (by omega) (by omega) rfl e74)) (by omega) (by first | exact jl_m1 hm (by omega) | exact jl_m2 hm (by omega) | omega)
            · refine sg_iconst (pc := 69) (z := 1) (dc_X7_sieve_57.1.2.2.2) (by decide) ?_
              refine sg_goto (pc := 70) (tgt := 74) (dc_X7_sieve_57.2.1.1.1) (by decide) ?_
              have e74 : (1 : Int) = S.getD p.toNat 0 := by
                rw [gS p (by omega) (by omega), if_pos (decide_eq_true (by omega))]
              refine md_gst (pc := 74) (dc_X7_sieve_57.2.1.2.1) t1 (by decide) (by omega) (by rw [fx_len]; omega) (fun h74 t74 => ?_)
              first | refine sg_iincB (pc := 75) (dc_X7_sieve_57.2.1.2.2) rfl (by decide) (by decide) (by omega) (by omega) ?_ | refine sg_iinc (pc := 75) (dc_X7_sieve_57.2.1.2.2) rfl (by decide) (by decide) ?_
              refine sg_goto (pc := 78) (tgt := 40) (dc_X7_sieve_57.2.2.1.1) (by decide) ?_
              refine sg_lsub (lv' := [(5, _), (0, _), (1, _), (2, _), (3, _), (4, _)]) ⟨rfl, rfl, rfl, rfl, rfl, rfl, trivial⟩ ?_
              exact ih _ _ (md_Gw t74 (fx_s (by omega) (by omega) rfl e74)) (by omega) (by first | exact jl_m1 hm (by omega) | exact jl_m2 hm (by omega) | omega)
      refine sg_lsub (lv' := [(5, _), (0, _), (1, _), (2, _), (3, _), (4, _)]) ⟨rfl, rfl, rfl, rfl, rfl, rfl, trivial⟩ ?_
      exact loop40 _ _ _ (md_Gw md_newG (fx_0 rfl lS)) (by omega) (Nat.lt_succ_self _)
    · refine sg_iconst (pc := 24) (z := 0) (dc_X7_sieve_0.2.2.1.1) (by decide) ?_
      refine sg_iret (pc := 25) (dc_X7_sieve_0.2.2.1.2) rfl (by first | exact Nat.le_of_ble_eq_true rfl | omega) (by first | exact Nat.le_of_ble_eq_true rfl | omega) ?_
      exact hQ _ _ (by omega) (by omega) (by omega) (fun q => absurd q (by omega)) (fun _ => md_Ya (by assumption) hA) (md_YW (by assumption))

set_option maxRecDepth 100000 in
set_option maxHeartbeats 400000 in
theorem f_X7_strip {w : sg_W} {Q : sg_O → sg_H → Prop} {h : sg_H} (g : sg_G w) {d : Nat} (hd : 9 ≤ d) {M : Nat} {row : Int} {A : fa_A} {L : List Int} (hA : md_ab h M = A) (hL : fa_L A row.toNat = L) (ok : fa_ok A) (hx : md_M w h M) (hQ : ∀ (v : Int) (h' : sg_H), ((row < 0 ∨ 4 ≤ row) → md_t h' M = 1) → (¬ (row < 0 ∨ 4 ≤ row) → md_t h' M = 0) → (md_t h' M = 0 → v = (L.length : Int) - ((fs_strip L).length : Int) ∧ md_ab h' M = fa_put A row.toNat (fs_strip L)) → (md_t h' M ≠ 0 → md_ab h' M = A) → md_W w h h' M → Q (.inl (some (sg_i v))) h') : sg_C w mi_X7_strip d 3 56 [sg_r M, sg_i row] h Q := by
  refine sg_of pn_X7 (Nat.le_of_ble_eq_true rfl) ?_
  have y0 := md_Y0 hx
  have hk := hx.2.1
  refine sg_aload_n (pc := 0) (j := 0) (dc_X7_strip_0.1.1.1.1) rfl rfl ?_
  refine sg_iload_n (pc := 1) (j := 1) (dc_X7_strip_0.1.1.1.2) rfl rfl ?_
  refine sg_cS1 (pc := 2) (d' := d - 1) (mc' := 0) (ms' := 0) g (dc_X7_strip_0.1.1.2.1) cb_X7_isNoRow ml_X7_68 ms_X7_isNoRow (Nat.le_of_ble_eq_true rfl) (by first | exact jl_d0 hd rfl | omega) (by first | exact Nat.le_of_ble_eq_true rfl | omega) (by first | exact Nat.le_of_ble_eq_true rfl | omega) ?_
  refine s_X7_isNoRow g (by first | exact jl_d1 hd rfl | omega) (fun z2 h2 b2 => sg_K1 ?_)
  (try simp only [fm_no, fm_one, fn_betw, fn_sign, fn_radix, fn_high, fn_low, if_true, if_false] at h2)
  refine sg_iconst (pc := 5) (z := 1) (dc_X7_strip_0.1.1.2.2) (by decide) ?_
  refine sg_cE2 (pc := 6) (d' := d - 1) (mc' := 0) (ms' := 0) 8 g (dc_X7_strip_0.1.2.1.1) cb_X7_start ml_X7_71 mn_X7_start rfl mv_X7_start (Nat.le_of_ble_eq_true rfl) (md_oc (by assumption)) (Nat.le_of_ble_eq_true rfl) (by first | exact jl_d0 hd rfl | omega) (by first | exact Nat.le_of_ble_eq_true rfl | omega) (by first | exact Nat.le_of_ble_eq_true rfl | omega) ?_
  refine s_X7_start g (by first | exact jl_d1 hd rfl | omega) (by omega) (by assumption) (fun v6 h6 b6 i6 t6 s6 u6 y6 => sg_K1 ?_)
  have x6 := y6.1
  have hk6 := x6.2.1
  have y6 := md_Yt (h0 := h) (by assumption) y6
  refine sg_if_eq (pc := 9) (tgt := 14) (dc_X7_strip_0.1.2.1.2) (by decide) (fun c9 => ?_) (fun c9 => ?_)
  · refine sg_iconst (pc := 14) (z := 0) (dc_X7_strip_0.2.1.1.1) (by decide) ?_
    refine sg_istore_n (pc := 15) (j := 2) (dc_X7_strip_0.2.1.1.2) rfl (by decide) ?_
    refine sg_aload_n (pc := 16) (j := 0) (dc_X7_strip_0.2.1.2.1) rfl rfl ?_
    refine md_grw (pc := 17) g (dc_X7_strip_0.2.1.2.2) fk_X7_9 (by assumption) (fun r17 => ?_)
    refine sg_iload_n (pc := 20) (j := 1) (dc_X7_strip_0.2.2.1.1) rfl rfl ?_
    first | refine md_alX (pc := 21) (dc_X7_strip_0.2.2.1.2) hA (by assumption) (by assumption) (by omega) (by omega) (fun X21 l21 => ?_) | refine md_alXt (pc := 21) (dc_X7_strip_0.2.2.1.2) hA (by assumption) (by assumption) (by omega) (by omega) (fun X21 l21 => ?_)
    refine md_xlen (pc := 22) (dc_X7_strip_0.2.2.2.1) (by assumption) (by omega) ?_
    refine sg_istore_n (pc := 23) (j := 3) (dc_X7_strip_0.2.2.2.2) rfl (by decide) ?_
    have loop24 : ∀ (N : Nat) (p : Int), (0 ≤ p ∧ p ≤ (L.length : Int)) → (∀ j : Nat, (j : Int) < p → fs_W L j) → ((L.length : Int) - p).toNat < N → sg_R w mi_X7_strip d 3 56 Q 24 [(2, sg_i p), (3, sg_i (L.length : Int)), (0, sg_r M), (1, sg_i row)] [] h6 0 0 := by
      intro N
      induction N with
      | zero => intro p p0 p1 hm; exact absurd hm (Nat.not_lt_zero _)
      | succ N ih =>
        intro p p0 p1 hm
        refine sg_iload_n (pc := 24) (j := 2) (dc_X7_strip_24.1.1.1.1) rfl rfl ?_
        refine sg_iload_n (pc := 25) (j := 3) (dc_X7_strip_24.1.1.1.2) rfl rfl ?_
        refine sg_icmp_ge (pc := 26) (tgt := 50) (dc_X7_strip_24.1.1.2.1) (by decide) (fun c26 => ?_) (fun c26 => ?_)
        · have b2 : p.toNat = L.length ∨ ¬ fs_W L p.toNat := Or.inl (by omega)
          have loop50 : ∀ (N : Nat) (q : Int), (p ≤ q ∧ q ≤ (L.length : Int)) → (∀ j : Nat, q ≤ (j : Int) → j < L.length → fs_W L j) → (q - p).toNat < N → sg_R w mi_X7_strip d 3 56 Q 50 [(3, sg_i q), (2, sg_i p), (0, sg_r M), (1, sg_i row)] [] h6 0 0 := by
            intro N
            induction N with
            | zero => intro q q0 q1 hm; exact absurd hm (Nat.not_lt_zero _)
            | succ N ihb =>
              intro q q0 q1 hm
              refine sg_iload_n (pc := 50) (j := 2) (dc_X7_strip_24.2.2.2.1) rfl rfl ?_
              refine sg_iload_n (pc := 51) (j := 3) (dc_X7_strip_24.2.2.2.2) rfl rfl ?_
              refine sg_icmp_ge (pc := 52) (tgt := 78) (dc_X7_strip_52.1.1.1.1) (by decide) (fun c52 => ?_) (fun c52 => ?_)
              · have rr : fs_R L p.toNat q.toNat := ⟨by omega, by omega, fun j hj => p1 j (by omega), b2, fun j j0 j1 => q1 j (by omega) j1, by first | exact Or.inl (by omega) | (refine Or.inr ?_; rw [show q.toNat - 1 = (q - 1).toNat by omega]; unfold fs_W; omega)⟩
                have sl := fs_stripl rr
                have e9 : (L.drop p.toNat).take (q - p).toNat = fs_strip L := by rw [fs_stripE rr, List.drop_take, show (q - p).toNat = q.toNat - p.toNat by omega]
                refine sg_aload_n (pc := 78) (j := 0) (dc_X7_strip_52.2.2.2.1) rfl rfl ?_
                refine md_grw (pc := 79) g (dc_X7_strip_52.2.2.2.2) fk_X7_9 (by assumption) (fun r79 => ?_)
                refine sg_iload_n (pc := 82) (j := 1) (dc_X7_strip_82.1.1.1.1) rfl rfl ?_
                first | refine md_alX (pc := 83) (dc_X7_strip_82.1.1.1.2) hA (by assumption) (by assumption) (by omega) (by omega) (fun X83 l83 => ?_) | refine md_alXt (pc := 83) (dc_X7_strip_82.1.1.1.2) hA (by assumption) (by assumption) (by omega) (by omega) (fun X83 l83 => ?_)
                refine md_xlen (pc := 84) (dc_X7_strip_82.1.1.2.1) (by assumption) (by omega) ?_
                refine sg_istore (pc := 85) (dc_X7_strip_82.1.1.2.2) (by decide) ?_
                refine sg_iload (pc := 87) (dc_X7_strip_82.1.2.1.1) rfl ?_
                refine sg_aload_n (pc := 89) (j := 0) (dc_X7_strip_82.1.2.1.2) rfl rfl ?_
                refine sg_iload_n (pc := 90) (j := 1) (dc_X7_strip_82.1.2.2.1) rfl rfl ?_
                refine sg_aload_n (pc := 91) (j := 0) (dc_X7_strip_82.1.2.2.2) rfl rfl ?_
                refine md_grw (pc := 92) g (dc_X7_strip_82.2.1.1.1) fk_X7_9 (by assumption) (fun r92 => ?_)
                refine sg_iload_n (pc := 95) (j := 1) (dc_X7_strip_82.2.1.1.2) rfl rfl ?_
                first | refine md_alX (pc := 96) (dc_X7_strip_82.2.1.2.1) hA (by assumption) (by assumption) (by omega) (by omega) (fun X96 l96 => ?_) | refine md_alXt (pc := 96) (dc_X7_strip_82.2.1.2.1) hA (by assumption) (by assumption) (by omega) (by omega) (fun X96 l96 => ?_)
                refine sg_iload_n (pc := 97) (j := 2) (dc_X7_strip_82.2.1.2.2) rfl rfl ?_
                refine sg_iload_n (pc := 98) (j := 3) (dc_X7_strip_82.2.2.1.1) rfl rfl ?_
                refine sg_cS3 (pc := 99) (d' := d - 1) (mc' := 1) (ms' := (q - p).toNat) g (dc_X7_strip_82.2.2.1.2) cb_X7_part ml_X7_82 ms_X7_part (Nat.le_of_ble_eq_true rfl) (by first | exact jl_d0 hd rfl | omega) (by first | exact Nat.le_of_ble_eq_true rfl | omega) (by first | exact Nat.le_of_ble_eq_true rfl | omega) ?_
                refine f_X7_part (c := 0) (m := (q - p).toNat) g (by first | exact jl_d1 hd rfl | omega) (by assumption) (by omega) (by omega) (by omega) (by omega) (fun h99 t99 => sg_K1 ?_)
                rw [e9] at t99
                have x99 : md_M w h99 M := md_ME (by assumption) (md_FE t99)
                have th99 := md_tE (w := w) (M := M) (by assumption) (md_FE t99)
                have hk99 := x99.2.1
                have y99 : md_Y w h h99 M := md_YE (by assumption) (md_FE t99)
                refine sg_cE2 (pc := 102) (d' := d - 1) (mc' := 2) (ms' := 16) 8 g (dc_X7_strip_82.2.2.2.1) cb_X7_set ml_X7_78 mn_X7_set rfl mv_X7_set (Nat.le_of_ble_eq_true rfl) (md_oc (by assumption)) (Nat.le_of_ble_eq_true rfl) (by first | exact jl_d0 hd rfl | omega) (by first | exact Nat.le_of_ble_eq_true rfl | omega) (by first | exact Nat.le_of_ble_eq_true rfl | omega) ?_
                refine s_X7_set g (by first | exact jl_d1 hd rfl | omega) (by omega) (by assumption) (fun q => ⟨md_XA (md_FX t99), by omega⟩) (fun q => absurd q (by omega)) (fun h102 y102 t102 ab102 => sg_K1 ?_)
                rw [md_Ya y99 hA, md_xl (md_FX t99)] at ab102
                have x102 := y102.1
                have hk102 := x102.2.1
                have z102 : md_W w h h102 M := md_Wt y99 y102
                first | refine sg_isubB (pc := 105) (dc_X7_strip_82.2.2.2.2) (by omega) (by omega) ?_ | refine sg_isub (pc := 105) (dc_X7_strip_82.2.2.2.2) ?_
                refine sg_iret (pc := 106) dc_X7_strip_106 rfl (by first | exact Nat.le_of_ble_eq_true rfl | omega) (by first | exact Nat.le_of_ble_eq_true rfl | omega) ?_
                exact hQ _ _ (by omega) (by omega) (fun _ => ⟨rfl, ab102⟩) (fun q => absurd (by omega) q) z102
              · refine sg_aload_n (pc := 55) (j := 0) (dc_X7_strip_52.1.1.1.2) rfl rfl ?_
                refine md_grw (pc := 56) g (dc_X7_strip_52.1.1.2.1) fk_X7_9 (by assumption) (fun r56 => ?_)
                refine sg_iload_n (pc := 59) (j := 1) (dc_X7_strip_52.1.1.2.2) rfl rfl ?_
                first | refine md_alX (pc := 60) (dc_X7_strip_52.1.2.1.1) hA (by assumption) (by assumption) (by omega) (by omega) (fun X60 l60 => ?_) | refine md_alXt (pc := 60) (dc_X7_strip_52.1.2.1.1) hA (by assumption) (by assumption) (by omega) (by omega) (fun X60 l60 => ?_)
                refine sg_iload_n (pc := 61) (j := 3) (dc_X7_strip_52.1.2.1.2) rfl rfl ?_
                refine sg_iconst (pc := 62) (z := 1) (dc_X7_strip_52.1.2.2.1) (by decide) ?_
                first | refine sg_isubB (pc := 63) (dc_X7_strip_52.1.2.2.2) (by omega) (by omega) ?_ | refine sg_isub (pc := 63) (dc_X7_strip_52.1.2.2.2) ?_
                refine md_xld (pc := 64) (dc_X7_strip_52.2.1.1.1) (by assumption) (by omega) (by omega) (fun g64 => ?_)
                refine sg_iconst (pc := 65) (z := 3) (dc_X7_strip_52.2.1.1.2) (by decide) ?_
                refine sg_cS2 (pc := 66) (d' := d - 1) (mc' := 0) (ms' := 0) g (dc_X7_strip_52.2.1.2.1) cb_X7_isKind ml_X7_26 ms_X7_isKind (Nat.le_of_ble_eq_true rfl) (by first | exact jl_d0 hd rfl | omega) (by first | exact Nat.le_of_ble_eq_true rfl | omega) (by first | exact Nat.le_of_ble_eq_true rfl | omega) ?_
                refine s_X7_isKind g (by first | exact jl_d1 hd rfl | omega) (by assumption) (by omega) (by omega) (fun z66 e66 b66 => sg_K1 ?_)
                refine sg_if_eq (pc := 69) (tgt := 78) (dc_X7_strip_52.2.1.2.2) (by decide) (fun c69 => ?_) (fun c69 => ?_)
                · have rr : fs_R L p.toNat q.toNat := ⟨by omega, by omega, fun j hj => p1 j (by omega), b2, fun j j0 j1 => q1 j (by omega) j1, by first | exact Or.inl (by omega) | (refine Or.inr ?_; rw [show q.toNat - 1 = (q - 1).toNat by omega]; unfold fs_W; omega)⟩
                  have sl := fs_stripl rr
                  have e9 : (L.drop p.toNat).take (q - p).toNat = fs_strip L := by rw [fs_stripE rr, List.drop_take, show (q - p).toNat = q.toNat - p.toNat by omega]
                  refine sg_aload_n (pc := 78) (j := 0) (dc_X7_strip_52.2.2.2.1) rfl rfl ?_
                  refine md_grw (pc := 79) g (dc_X7_strip_52.2.2.2.2) fk_X7_9 (by assumption) (fun r79 => ?_)
                  refine sg_iload_n (pc := 82) (j := 1) (dc_X7_strip_82.1.1.1.1) rfl rfl ?_
                  first | refine md_alX (pc := 83) (dc_X7_strip_82.1.1.1.2) hA (by assumption) (by assumption) (by omega) (by omega) (fun X83 l83 => ?_) | refine md_alXt (pc := 83) (dc_X7_strip_82.1.1.1.2) hA (by assumption) (by assumption) (by omega) (by omega) (fun X83 l83 => ?_)
                  refine md_xlen (pc := 84) (dc_X7_strip_82.1.1.2.1) (by assumption) (by omega) ?_
                  refine sg_istore (pc := 85) (dc_X7_strip_82.1.1.2.2) (by decide) ?_
                  refine sg_iload (pc := 87) (dc_X7_strip_82.1.2.1.1) rfl ?_
                  refine sg_aload_n (pc := 89) (j := 0) (dc_X7_strip_82.1.2.1.2) rfl rfl ?_
                  refine sg_iload_n (pc := 90) (j := 1) (dc_X7_strip_82.1.2.2.1) rfl rfl ?_
                  refine sg_aload_n (pc := 91) (j := 0) (dc_X7_strip_82.1.2.2.2) rfl rfl ?_
                  refine md_grw (pc := 92) g (dc_X7_strip_82.2.1.1.1) fk_X7_9 (by assumption) (fun r92 => ?_)
                  refine sg_iload_n (pc := 95) (j := 1) (dc_X7_strip_82.2.1.1.2) rfl rfl ?_
                  first | refine md_alX (pc := 96) (dc_X7_strip_82.2.1.2.1) hA (by assumption) (by assumption) (by omega) (by omega) (fun X96 l96 => ?_) | refine md_alXt (pc := 96) (dc_X7_strip_82.2.1.2.1) hA (by assumption) (by assumption) (by omega) (by omega) (fun X96 l96 => ?_)
                  refine sg_iload_n (pc := 97) (j := 2) (dc_X7_strip_82.2.1.2.2) rfl rfl ?_
                  refine sg_iload_n (pc := 98) (j := 3) (dc_X7_strip_82.2.2.1.1) rfl rfl ?_
                  refine sg_cS3 (pc := 99) (d' := d - 1) (mc' := 1) (ms' := (q - p).toNat) g (dc_X7_strip_82.2.2.1.2) cb_X7_part ml_X7_82 ms_X7_part (Nat.le_of_ble_eq_true rfl) (by first | exact jl_d0 hd rfl | omega) (by first | exact Nat.le_of_ble_eq_true rfl | omega) (by first | exact Nat.le_of_ble_eq_true rfl | omega) ?_
                  refine f_X7_part (c := 0) (m := (q - p).toNat) g (by first | exact jl_d1 hd rfl | omega) (by assumption) (by omega) (by omega) (by omega) (by omega) (fun h99 t99 => sg_K1 ?_)
                  rw [e9] at t99
                  have x99 : md_M w h99 M := md_ME (by assumption) (md_FE t99)
                  have th99 := md_tE (w := w) (M := M) (by assumption) (md_FE t99)
                  have hk99 := x99.2.1
                  have y99 : md_Y w h h99 M := md_YE (by assumption) (md_FE t99)
                  refine sg_cE2 (pc := 102) (d' := d - 1) (mc' := 2) (ms' := 16) 8 g (dc_X7_strip_82.2.2.2.1) cb_X7_set ml_X7_78 mn_X7_set rfl mv_X7_set (Nat.le_of_ble_eq_true rfl) (md_oc (by assumption)) (Nat.le_of_ble_eq_true rfl) (by first | exact jl_d0 hd rfl | omega) (by first | exact Nat.le_of_ble_eq_true rfl | omega) (by first | exact Nat.le_of_ble_eq_true rfl | omega) ?_
                  refine s_X7_set g (by first | exact jl_d1 hd rfl | omega) (by omega) (by assumption) (fun q => ⟨md_XA (md_FX t99), by omega⟩) (fun q => absurd q (by omega)) (fun h102 y102 t102 ab102 => sg_K1 ?_)
                  rw [md_Ya y99 hA, md_xl (md_FX t99)] at ab102
                  have x102 := y102.1
                  have hk102 := x102.2.1
                  have z102 : md_W w h h102 M := md_Wt y99 y102
                  first | refine sg_isubB (pc := 105) (dc_X7_strip_82.2.2.2.2) (by omega) (by omega) ?_ | refine sg_isub (pc := 105) (dc_X7_strip_82.2.2.2.2) ?_
                  refine sg_iret (pc := 106) dc_X7_strip_106 rfl (by first | exact Nat.le_of_ble_eq_true rfl | omega) (by first | exact Nat.le_of_ble_eq_true rfl | omega) ?_
                  exact hQ _ _ (by omega) (by omega) (fun _ => ⟨rfl, ab102⟩) (fun q => absurd (by omega) q) z102
                · first | refine sg_iincB (pc := 72) (dc_X7_strip_52.2.2.1.1) rfl (by decide) (by decide) (by omega) (by omega) ?_ | refine sg_iinc (pc := 72) (dc_X7_strip_52.2.2.1.1) rfl (by decide) (by decide) ?_
                  refine sg_goto (pc := 75) (tgt := 50) (dc_X7_strip_52.2.2.1.2) (by decide) ?_
                  refine sg_lsub (lv' := [(3, _), (2, _), (0, _), (1, _)]) ⟨rfl, rfl, rfl, rfl, trivial⟩ ?_
                  exact ihb _ (by omega) (fun j j0 j1 => by
                    by_cases c : j = (q - 1).toNat
                    · subst c; unfold fs_W; omega
                    · exact q1 j (by omega) j1) (by first | exact jl_m1 hm (by omega) | exact jl_m2 hm (by omega) | omega)
          refine sg_lsub (lv' := [(3, _), (2, _), (0, _), (1, _)]) ⟨rfl, rfl, rfl, rfl, trivial⟩ ?_
          exact loop50 _ _ (by omega) (fun j j0 j1 => absurd j1 (by omega)) (Nat.lt_succ_self _)
        · refine sg_aload_n (pc := 29) (j := 0) (dc_X7_strip_24.1.1.2.2) rfl rfl ?_
          refine md_grw (pc := 30) g (dc_X7_strip_24.1.2.1.1) fk_X7_9 (by assumption) (fun r30 => ?_)
          refine sg_iload_n (pc := 33) (j := 1) (dc_X7_strip_24.1.2.1.2) rfl rfl ?_
          first | refine md_alX (pc := 34) (dc_X7_strip_24.1.2.2.1) hA (by assumption) (by assumption) (by omega) (by omega) (fun X34 l34 => ?_) | refine md_alXt (pc := 34) (dc_X7_strip_24.1.2.2.1) hA (by assumption) (by assumption) (by omega) (by omega) (fun X34 l34 => ?_)
          refine sg_iload_n (pc := 35) (j := 2) (dc_X7_strip_24.1.2.2.2) rfl rfl ?_
          refine md_xld (pc := 36) (dc_X7_strip_24.2.1.1.1) (by assumption) (by omega) (by omega) (fun g36 => ?_)
          refine sg_iconst (pc := 37) (z := 3) (dc_X7_strip_24.2.1.1.2) (by decide) ?_
          refine sg_cS2 (pc := 38) (d' := d - 1) (mc' := 0) (ms' := 0) g (dc_X7_strip_24.2.1.2.1) cb_X7_isKind ml_X7_26 ms_X7_isKind (Nat.le_of_ble_eq_true rfl) (by first | exact jl_d0 hd rfl | omega) (by first | exact Nat.le_of_ble_eq_true rfl | omega) (by first | exact Nat.le_of_ble_eq_true rfl | omega) ?_
          refine s_X7_isKind g (by first | exact jl_d1 hd rfl | omega) (by assumption) (by omega) (by omega) (fun z38 e38 b38 => sg_K1 ?_)
          refine sg_if_eq (pc := 41) (tgt := 50) (dc_X7_strip_24.2.1.2.2) (by decide) (fun c41 => ?_) (fun c41 => ?_)
          · have b2 : p.toNat = L.length ∨ ¬ fs_W L p.toNat := Or.inr (by unfold fs_W; omega)
            have loop50 : ∀ (N : Nat) (q : Int), (p ≤ q ∧ q ≤ (L.length : Int)) → (∀ j : Nat, q ≤ (j : Int) → j < L.length → fs_W L j) → (q - p).toNat < N → sg_R w mi_X7_strip d 3 56 Q 50 [(3, sg_i q), (2, sg_i p), (0, sg_r M), (1, sg_i row)] [] h6 0 0 := by
              intro N
              induction N with
              | zero => intro q q0 q1 hm; exact absurd hm (Nat.not_lt_zero _)
              | succ N ihb =>
                intro q q0 q1 hm
                refine sg_iload_n (pc := 50) (j := 2) (dc_X7_strip_24.2.2.2.1) rfl rfl ?_
                refine sg_iload_n (pc := 51) (j := 3) (dc_X7_strip_24.2.2.2.2) rfl rfl ?_
                refine sg_icmp_ge (pc := 52) (tgt := 78) (dc_X7_strip_52.1.1.1.1) (by decide) (fun c52 => ?_) (fun c52 => ?_)
                · have rr : fs_R L p.toNat q.toNat := ⟨by omega, by omega, fun j hj => p1 j (by omega), b2, fun j j0 j1 => q1 j (by omega) j1, by first | exact Or.inl (by omega) | (refine Or.inr ?_; rw [show q.toNat - 1 = (q - 1).toNat by omega]; unfold fs_W; omega)⟩
                  have sl := fs_stripl rr
                  have e9 : (L.drop p.toNat).take (q - p).toNat = fs_strip L := by rw [fs_stripE rr, List.drop_take, show (q - p).toNat = q.toNat - p.toNat by omega]
                  refine sg_aload_n (pc := 78) (j := 0) (dc_X7_strip_52.2.2.2.1) rfl rfl ?_
                  refine md_grw (pc := 79) g (dc_X7_strip_52.2.2.2.2) fk_X7_9 (by assumption) (fun r79 => ?_)
                  refine sg_iload_n (pc := 82) (j := 1) (dc_X7_strip_82.1.1.1.1) rfl rfl ?_
                  first | refine md_alX (pc := 83) (dc_X7_strip_82.1.1.1.2) hA (by assumption) (by assumption) (by omega) (by omega) (fun X83 l83 => ?_) | refine md_alXt (pc := 83) (dc_X7_strip_82.1.1.1.2) hA (by assumption) (by assumption) (by omega) (by omega) (fun X83 l83 => ?_)
                  refine md_xlen (pc := 84) (dc_X7_strip_82.1.1.2.1) (by assumption) (by omega) ?_
                  refine sg_istore (pc := 85) (dc_X7_strip_82.1.1.2.2) (by decide) ?_
                  refine sg_iload (pc := 87) (dc_X7_strip_82.1.2.1.1) rfl ?_
                  refine sg_aload_n (pc := 89) (j := 0) (dc_X7_strip_82.1.2.1.2) rfl rfl ?_
                  refine sg_iload_n (pc := 90) (j := 1) (dc_X7_strip_82.1.2.2.1) rfl rfl ?_
                  refine sg_aload_n (pc := 91) (j := 0) (dc_X7_strip_82.1.2.2.2) rfl rfl ?_
                  refine md_grw (pc := 92) g (dc_X7_strip_82.2.1.1.1) fk_X7_9 (by assumption) (fun r92 => ?_)
                  refine sg_iload_n (pc := 95) (j := 1) (dc_X7_strip_82.2.1.1.2) rfl rfl ?_
                  first | refine md_alX (pc := 96) (dc_X7_strip_82.2.1.2.1) hA (by assumption) (by assumption) (by omega) (by omega) (fun X96 l96 => ?_) | refine md_alXt (pc := 96) (dc_X7_strip_82.2.1.2.1) hA (by assumption) (by assumption) (by omega) (by omega) (fun X96 l96 => ?_)
                  refine sg_iload_n (pc := 97) (j := 2) (dc_X7_strip_82.2.1.2.2) rfl rfl ?_
                  refine sg_iload_n (pc := 98) (j := 3) (dc_X7_strip_82.2.2.1.1) rfl rfl ?_
                  refine sg_cS3 (pc := 99) (d' := d - 1) (mc' := 1) (ms' := (q - p).toNat) g (dc_X7_strip_82.2.2.1.2) cb_X7_part ml_X7_82 ms_X7_part (Nat.le_of_ble_eq_true rfl) (by first | exact jl_d0 hd rfl | omega) (by first | exact Nat.le_of_ble_eq_true rfl | omega) (by first | exact Nat.le_of_ble_eq_true rfl | omega) ?_
                  refine f_X7_part (c := 0) (m := (q - p).toNat) g (by first | exact jl_d1 hd rfl | omega) (by assumption) (by omega) (by omega) (by omega) (by omega) (fun h99 t99 => sg_K1 ?_)
                  rw [e9] at t99
                  have x99 : md_M w h99 M := md_ME (by assumption) (md_FE t99)
                  have th99 := md_tE (w := w) (M := M) (by assumption) (md_FE t99)
                  have hk99 := x99.2.1
                  have y99 : md_Y w h h99 M := md_YE (by assumption) (md_FE t99)
                  refine sg_cE2 (pc := 102) (d' := d - 1) (mc' := 2) (ms' := 16) 8 g (dc_X7_strip_82.2.2.2.1) cb_X7_set ml_X7_78 mn_X7_set rfl mv_X7_set (Nat.le_of_ble_eq_true rfl) (md_oc (by assumption)) (Nat.le_of_ble_eq_true rfl) (by first | exact jl_d0 hd rfl | omega) (by first | exact Nat.le_of_ble_eq_true rfl | omega) (by first | exact Nat.le_of_ble_eq_true rfl | omega) ?_
                  refine s_X7_set g (by first | exact jl_d1 hd rfl | omega) (by omega) (by assumption) (fun q => ⟨md_XA (md_FX t99), by omega⟩) (fun q => absurd q (by omega)) (fun h102 y102 t102 ab102 => sg_K1 ?_)
                  rw [md_Ya y99 hA, md_xl (md_FX t99)] at ab102
                  have x102 := y102.1
                  have hk102 := x102.2.1
                  have z102 : md_W w h h102 M := md_Wt y99 y102
                  first | refine sg_isubB (pc := 105) (dc_X7_strip_82.2.2.2.2) (by omega) (by omega) ?_ | refine sg_isub (pc := 105) (dc_X7_strip_82.2.2.2.2) ?_
                  refine sg_iret (pc := 106) dc_X7_strip_106 rfl (by first | exact Nat.le_of_ble_eq_true rfl | omega) (by first | exact Nat.le_of_ble_eq_true rfl | omega) ?_
                  exact hQ _ _ (by omega) (by omega) (fun _ => ⟨rfl, ab102⟩) (fun q => absurd (by omega) q) z102
                · refine sg_aload_n (pc := 55) (j := 0) (dc_X7_strip_52.1.1.1.2) rfl rfl ?_
                  refine md_grw (pc := 56) g (dc_X7_strip_52.1.1.2.1) fk_X7_9 (by assumption) (fun r56 => ?_)
                  refine sg_iload_n (pc := 59) (j := 1) (dc_X7_strip_52.1.1.2.2) rfl rfl ?_
                  first | refine md_alX (pc := 60) (dc_X7_strip_52.1.2.1.1) hA (by assumption) (by assumption) (by omega) (by omega) (fun X60 l60 => ?_) | refine md_alXt (pc := 60) (dc_X7_strip_52.1.2.1.1) hA (by assumption) (by assumption) (by omega) (by omega) (fun X60 l60 => ?_)
                  refine sg_iload_n (pc := 61) (j := 3) (dc_X7_strip_52.1.2.1.2) rfl rfl ?_
                  refine sg_iconst (pc := 62) (z := 1) (dc_X7_strip_52.1.2.2.1) (by decide) ?_
                  first | refine sg_isubB (pc := 63) (dc_X7_strip_52.1.2.2.2) (by omega) (by omega) ?_ | refine sg_isub (pc := 63) (dc_X7_strip_52.1.2.2.2) ?_
                  refine md_xld (pc := 64) (dc_X7_strip_52.2.1.1.1) (by assumption) (by omega) (by omega) (fun g64 => ?_)
                  refine sg_iconst (pc := 65) (z := 3) (dc_X7_strip_52.2.1.1.2) (by decide) ?_
                  refine sg_cS2 (pc := 66) (d' := d - 1) (mc' := 0) (ms' := 0) g (dc_X7_strip_52.2.1.2.1) cb_X7_isKind ml_X7_26 ms_X7_isKind (Nat.le_of_ble_eq_true rfl) (by first | exact jl_d0 hd rfl | omega) (by first | exact Nat.le_of_ble_eq_true rfl | omega) (by first | exact Nat.le_of_ble_eq_true rfl | omega) ?_
                  refine s_X7_isKind g (by first | exact jl_d1 hd rfl | omega) (by assumption) (by omega) (by omega) (fun z66 e66 b66 => sg_K1 ?_)
                  refine sg_if_eq (pc := 69) (tgt := 78) (dc_X7_strip_52.2.1.2.2) (by decide) (fun c69 => ?_) (fun c69 => ?_)
                  · have rr : fs_R L p.toNat q.toNat := ⟨by omega, by omega, fun j hj => p1 j (by omega), b2, fun j j0 j1 => q1 j (by omega) j1, by first | exact Or.inl (by omega) | (refine Or.inr ?_; rw [show q.toNat - 1 = (q - 1).toNat by omega]; unfold fs_W; omega)⟩
                    have sl := fs_stripl rr
                    have e9 : (L.drop p.toNat).take (q - p).toNat = fs_strip L := by rw [fs_stripE rr, List.drop_take, show (q - p).toNat = q.toNat - p.toNat by omega]
                    refine sg_aload_n (pc := 78) (j := 0) (dc_X7_strip_52.2.2.2.1) rfl rfl ?_
                    refine md_grw (pc := 79) g (dc_X7_strip_52.2.2.2.2) fk_X7_9 (by assumption) (fun r79 => ?_)
                    refine sg_iload_n (pc := 82) (j := 1) (dc_X7_strip_82.1.1.1.1) rfl rfl ?_
                    first | refine md_alX (pc := 83) (dc_X7_strip_82.1.1.1.2) hA (by assumption) (by assumption) (by omega) (by omega) (fun X83 l83 => ?_) | refine md_alXt (pc := 83) (dc_X7_strip_82.1.1.1.2) hA (by assumption) (by assumption) (by omega) (by omega) (fun X83 l83 => ?_)
                    refine md_xlen (pc := 84) (dc_X7_strip_82.1.1.2.1) (by assumption) (by omega) ?_
                    refine sg_istore (pc := 85) (dc_X7_strip_82.1.1.2.2) (by decide) ?_
                    refine sg_iload (pc := 87) (dc_X7_strip_82.1.2.1.1) rfl ?_
                    refine sg_aload_n (pc := 89) (j := 0) (dc_X7_strip_82.1.2.1.2) rfl rfl ?_
                    refine sg_iload_n (pc := 90) (j := 1) (dc_X7_strip_82.1.2.2.1) rfl rfl ?_
                    refine sg_aload_n (pc := 91) (j := 0) (dc_X7_strip_82.1.2.2.2) rfl rfl ?_
                    refine md_grw (pc := 92) g (dc_X7_strip_82.2.1.1.1) fk_X7_9 (by assumption) (fun r92 => ?_)
                    refine sg_iload_n (pc := 95) (j := 1) (dc_X7_strip_82.2.1.1.2) rfl rfl ?_
                    first | refine md_alX (pc := 96) (dc_X7_strip_82.2.1.2.1) hA (by assumption) (by assumption) (by omega) (by omega) (fun X96 l96 => ?_) | refine md_alXt (pc := 96) (dc_X7_strip_82.2.1.2.1) hA (by assumption) (by assumption) (by omega) (by omega) (fun X96 l96 => ?_)
                    refine sg_iload_n (pc := 97) (j := 2) (dc_X7_strip_82.2.1.2.2) rfl rfl ?_
                    refine sg_iload_n (pc := 98) (j := 3) (dc_X7_strip_82.2.2.1.1) rfl rfl ?_
                    refine sg_cS3 (pc := 99) (d' := d - 1) (mc' := 1) (ms' := (q - p).toNat) g (dc_X7_strip_82.2.2.1.2) cb_X7_part ml_X7_82 ms_X7_part (Nat.le_of_ble_eq_true rfl) (by first | exact jl_d0 hd rfl | omega) (by first | exact Nat.le_of_ble_eq_true rfl | omega) (by first | exact Nat.le_of_ble_eq_true rfl | omega) ?_
                    refine f_X7_part (c := 0) (m := (q - p).toNat) g (by first | exact jl_d1 hd rfl | omega) (by assumption) (by omega) (by omega) (by omega) (by omega) (fun h99 t99 => sg_K1 ?_)
                    rw [e9] at t99
                    have x99 : md_M w h99 M := md_ME (by assumption) (md_FE t99)
                    have th99 := md_tE (w := w) (M := M) (by assumption) (md_FE t99)
                    have hk99 := x99.2.1
                    have y99 : md_Y w h h99 M := md_YE (by assumption) (md_FE t99)
                    refine sg_cE2 (pc := 102) (d' := d - 1) (mc' := 2) (ms' := 16) 8 g (dc_X7_strip_82.2.2.2.1) cb_X7_set ml_X7_78 mn_X7_set rfl mv_X7_set (Nat.le_of_ble_eq_true rfl) (md_oc (by assumption)) (Nat.le_of_ble_eq_true rfl) (by first | exact jl_d0 hd rfl | omega) (by first | exact Nat.le_of_ble_eq_true rfl | omega) (by first | exact Nat.le_of_ble_eq_true rfl | omega) ?_
                    refine s_X7_set g (by first | exact jl_d1 hd rfl | omega) (by omega) (by assumption) (fun q => ⟨md_XA (md_FX t99), by omega⟩) (fun q => absurd q (by omega)) (fun h102 y102 t102 ab102 => sg_K1 ?_)
                    rw [md_Ya y99 hA, md_xl (md_FX t99)] at ab102
                    have x102 := y102.1
                    have hk102 := x102.2.1
                    have z102 : md_W w h h102 M := md_Wt y99 y102
                    first | refine sg_isubB (pc := 105) (dc_X7_strip_82.2.2.2.2) (by omega) (by omega) ?_ | refine sg_isub (pc := 105) (dc_X7_strip_82.2.2.2.2) ?_
                    refine sg_iret (pc := 106) dc_X7_strip_106 rfl (by first | exact Nat.le_of_ble_eq_true rfl | omega) (by first | exact Nat.le_of_ble_eq_true rfl | omega) ?_
                    exact hQ _ _ (by omega) (by omega) (fun _ => ⟨rfl, ab102⟩) (fun q => absurd (by omega) q) z102
                  · first | refine sg_iincB (pc := 72) (dc_X7_strip_52.2.2.1.1) rfl (by decide) (by decide) (by omega) (by omega) ?_ | refine sg_iinc (pc := 72) (dc_X7_strip_52.2.2.1.1) rfl (by decide) (by decide) ?_
                    refine sg_goto (pc := 75) (tgt := 50) (dc_X7_strip_52.2.2.1.2) (by decide) ?_
                    refine sg_lsub (lv' := [(3, _), (2, _), (0, _), (1, _)]) ⟨rfl, rfl, rfl, rfl, trivial⟩ ?_
                    exact ihb _ (by omega) (fun j j0 j1 => by
                      by_cases c : j = (q - 1).toNat
                      · subst c; unfold fs_W; omega
                      · exact q1 j (by omega) j1) (by first | exact jl_m1 hm (by omega) | exact jl_m2 hm (by omega) | omega)
            refine sg_lsub (lv' := [(3, _), (2, _), (0, _), (1, _)]) ⟨rfl, rfl, rfl, rfl, trivial⟩ ?_
            exact loop50 _ _ (by omega) (fun j j0 j1 => absurd j1 (by omega)) (Nat.lt_succ_self _)
          · first | refine sg_iincB (pc := 44) (dc_X7_strip_24.2.2.1.1) rfl (by decide) (by decide) (by omega) (by omega) ?_ | refine sg_iinc (pc := 44) (dc_X7_strip_24.2.2.1.1) rfl (by decide) (by decide) ?_
            refine sg_goto (pc := 47) (tgt := 24) (dc_X7_strip_24.2.2.1.2) (by decide) ?_
            refine sg_lsub (lv' := [(2, _), (3, _), (0, _), (1, _)]) ⟨rfl, rfl, rfl, rfl, trivial⟩ ?_
            exact ih _ (by omega) (fun j j0 => by
              by_cases c : j = p.toNat
              · subst c; unfold fs_W; omega
              · exact p1 j (by omega)) (by first | exact jl_m1 hm (by omega) | exact jl_m2 hm (by omega) | omega)
    refine sg_lsub (lv' := [(2, _), (3, _), (0, _), (1, _)]) ⟨rfl, rfl, rfl, rfl, trivial⟩ ?_
    exact loop24 _ _ (by omega) (fun j j0 => absurd j0 (by omega)) (Nat.lt_succ_self _)
  · refine sg_iconst (pc := 12) (z := 0) (dc_X7_strip_0.1.2.2.1) (by decide) ?_
    refine sg_iret (pc := 13) (dc_X7_strip_0.1.2.2.2) rfl (by first | exact Nat.le_of_ble_eq_true rfl | omega) (by first | exact Nat.le_of_ble_eq_true rfl | omega) ?_
    exact hQ _ _ (by omega) (by omega) (fun q => absurd q (by omega)) (fun _ => md_Ya (by assumption) hA) (md_YW (by assumption))

