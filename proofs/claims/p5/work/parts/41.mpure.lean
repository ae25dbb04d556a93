/-! the reference's numbers, as functions of whole numbers -/
def fm_one (x : Int) : Int := if x = 0 then 0 else 1
def fm_no (x m : Int) : Int := if 0 ≤ x ∧ x ≤ m then 0 else 1
set_option maxRecDepth 100000 in
theorem s_X7_isOf {w : sg_W} {Q : sg_O → sg_H → Prop} {h : sg_H} (g : sg_G w) {d : Nat} (hd : 1 ≤ d) {x a b : Int} (hQ : ∀ z, z = fn_betw x a b → (z = 0 ∨ z = 1) → Q (.inl (some (sg_i z))) h) : sg_C w mi_X7_isOf d 0 0 [sg_i x, sg_i a, sg_i b] h Q := by
  refine sg_of pn_X7 (Nat.le_of_ble_eq_true rfl) ?_
  refine sg_iload_n (pc := 0) (j := 0) (dc_X7_isOf_0.1.1.1.1) rfl rfl ?_
  refine sg_iload_n (pc := 1) (j := 1) (dc_X7_isOf_0.1.1.1.2) rfl rfl ?_
  refine sg_icmp_lt (pc := 2) (tgt := 14) (dc_X7_isOf_0.1.1.2.1) (by decide) (fun c2 => ?_) (fun c2 => ?_)
  · refine sg_iconst (pc := 14) (z := 0) (dc_X7_isOf_0.2.1.1.1) (by decide) ?_
    refine sg_zret (pc := 15) (dc_X7_isOf_0.2.1.1.2) rfl (by first | exact Or.inl rfl | exact Or.inr rfl | omega | assumption) (by first | exact Nat.le_of_ble_eq_true rfl | omega) (by first | exact Nat.le_of_ble_eq_true rfl | omega) ?_
    exact hQ _ (by (try simp only [fn_betw] at *) <;> first | omega | ((repeat' split) <;> omega) | grind) (by first | exact Or.inl rfl | exact Or.inr rfl | omega | assumption)
  · refine sg_iload_n (pc := 5) (j := 0) (dc_X7_isOf_0.1.1.2.2) rfl rfl ?_
    refine sg_iload_n (pc := 6) (j := 2) (dc_X7_isOf_0.1.2.1.1) rfl rfl ?_
    refine sg_icmp_gt (pc := 7) (tgt := 14) (dc_X7_isOf_0.1.2.1.2) (by decide) (fun c7 => ?_) (fun c7 => ?_)
    · refine sg_iconst (pc := 14) (z := 0) (dc_X7_isOf_0.2.1.1.1) (by decide) ?_
      refine sg_zret (pc := 15) (dc_X7_isOf_0.2.1.1.2) rfl (by first | exact Or.inl rfl | exact Or.inr rfl | omega | assumption) (by first | exact Nat.le_of_ble_eq_true rfl | omega) (by first | exact Nat.le_of_ble_eq_true rfl | omega) ?_
      exact hQ _ (by (try simp only [fn_betw] at *) <;> first | omega | ((repeat' split) <;> omega) | grind) (by first | exact Or.inl rfl | exact Or.inr rfl | omega | assumption)
    · refine sg_iconst (pc := 10) (z := 1) (dc_X7_isOf_0.1.2.2.1) (by decide) ?_
      refine sg_goto (pc := 11) (tgt := 15) (dc_X7_isOf_0.1.2.2.2) (by decide) ?_
      refine sg_zret (pc := 15) (dc_X7_isOf_0.2.1.1.2) rfl (by first | exact Or.inl rfl | exact Or.inr rfl | omega | assumption) (by first | exact Nat.le_of_ble_eq_true rfl | omega) (by first | exact Nat.le_of_ble_eq_true rfl | omega) ?_
      exact hQ _ (by (try simp only [fn_betw] at *) <;> first | omega | ((repeat' split) <;> omega) | grind) (by first | exact Or.inl rfl | exact Or.inr rfl | omega | assumption)

set_option maxRecDepth 100000 in
theorem s_X7_one {w : sg_W} {Q : sg_O → sg_H → Prop} {h : sg_H} (g : sg_G w) {d : Nat} (hd : 1 ≤ d) {x : Int} (hQ : ∀ z, z = fm_one x → (z = 0 ∨ z = 1) → Q (.inl (some (sg_i z))) h) : sg_C w mi_X7_one d 0 0 [sg_i x] h Q := by
  refine sg_of pn_X7 (Nat.le_of_ble_eq_true rfl) ?_
  refine sg_iload_n (pc := 0) (j := 0) (dc_X7_one_0.1.1.1) rfl rfl ?_
  refine sg_if_eq (pc := 1) (tgt := 8) (dc_X7_one_0.1.1.2) (by decide) (fun c1 => ?_) (fun c1 => ?_)
  · refine sg_iconst (pc := 8) (z := 0) (dc_X7_one_0.2.1.1) (by decide) ?_
    refine sg_iret (pc := 9) (dc_X7_one_0.2.1.2) rfl (by first | exact Nat.le_of_ble_eq_true rfl | omega) (by first | exact Nat.le_of_ble_eq_true rfl | omega) ?_
    exact hQ _ (by (try simp only [fm_one] at *) <;> first | omega | ((repeat' split) <;> omega) | grind) (by first | exact Or.inl rfl | exact Or.inr rfl | omega | assumption)
  · refine sg_iconst (pc := 4) (z := 1) (dc_X7_one_0.1.2.1) (by decide) ?_
    refine sg_goto (pc := 5) (tgt := 9) (dc_X7_one_0.1.2.2) (by decide) ?_
    refine sg_iret (pc := 9) (dc_X7_one_0.2.1.2) rfl (by first | exact Nat.le_of_ble_eq_true rfl | omega) (by first | exact Nat.le_of_ble_eq_true rfl | omega) ?_
    exact hQ _ (by (try simp only [fm_one] at *) <;> first | omega | ((repeat' split) <;> omega) | grind) (by first | exact Or.inl rfl | exact Or.inr rfl | omega | assumption)

set_option maxRecDepth 100000 in
theorem s_X7_isSign {w : sg_W} {Q : sg_O → sg_H → Prop} {h : sg_H} (g : sg_G w) {d : Nat} (hd : 2 ≤ d) {x : Int} (hQ : ∀ z, z = fn_sign x → (z = 0 ∨ z = 1) → Q (.inl (some (sg_i z))) h) : sg_C w mi_X7_isSign d 0 0 [sg_i x] h Q := by
  refine sg_of pn_X7 (Nat.le_of_ble_eq_true rfl) ?_
  refine sg_iload_n (pc := 0) (j := 0) (dc_X7_isSign_0.1.1.1) rfl rfl ?_
  refine sg_iconst (pc := 1) (z := 0) (dc_X7_isSign_0.1.1.2) (by decide) ?_
  refine sg_sipush (pc := 2) (z := 255) (dc_X7_isSign_0.1.2.1) (by decide) ?_
  refine sg_cS3 (pc := 5) (d' := d - 1) (mc' := 0) (ms' := 0) g (dc_X7_isSign_0.1.2.2) cb_X7_isOf ml_X7_22 ms_X7_isOf (Nat.le_of_ble_eq_true rfl) (by first | exact jl_d0 hd rfl | omega) (by first | exact Nat.le_of_ble_eq_true rfl | omega) (by first | exact Nat.le_of_ble_eq_true rfl | omega) ?_
  refine s_X7_isOf g (by first | exact jl_d1 hd rfl | omega) (fun z5 h5 b5 => sg_K1 ?_)
  (try simp only [fn_sign, fn_betw] at h5)
  refine sg_zret (pc := 8) (dc_X7_isSign_0.2.1.1) rfl (by first | exact Or.inl rfl | exact Or.inr rfl | omega | assumption) (by first | exact Nat.le_of_ble_eq_true rfl | omega) (by first | exact Nat.le_of_ble_eq_true rfl | omega) ?_
  exact hQ _ (by (try simp only [fn_sign, fn_betw] at *) <;> first | omega | ((repeat' split) <;> omega) | grind) (by first | exact Or.inl rfl | exact Or.inr rfl | omega | assumption)

set_option maxRecDepth 100000 in
theorem s_X7_upperOf {w : sg_W} {Q : sg_O → sg_H → Prop} {h : sg_H} (g : sg_G w) {d : Nat} (hd : 2 ≤ d) {x : Int} (hQ : ∀ z, z = fn_upper x → Q (.inl (some (sg_i z))) h) : sg_C w mi_X7_upperOf d 0 0 [sg_i x] h Q := by
  refine sg_of pn_X7 (Nat.le_of_ble_eq_true rfl) ?_
  refine sg_iload_n (pc := 0) (j := 0) (dc_X7_upperOf_0.1.1.1.1) rfl rfl ?_
  refine sg_bipush (pc := 1) (z := 97) (dc_X7_upperOf_0.1.1.1.2) (by decide) ?_
  refine sg_bipush (pc := 3) (z := 122) (dc_X7_upperOf_0.1.1.2.1) (by decide) ?_
  refine sg_cS3 (pc := 5) (d' := d - 1) (mc' := 0) (ms' := 0) g (dc_X7_upperOf_0.1.1.2.2) cb_X7_isOf ml_X7_22 ms_X7_isOf (Nat.le_of_ble_eq_true rfl) (by first | exact jl_d0 hd rfl | omega) (by first | exact Nat.le_of_ble_eq_true rfl | omega) (by first | exact Nat.le_of_ble_eq_true rfl | omega) ?_
  refine s_X7_isOf g (by first | exact jl_d1 hd rfl | omega) (fun z5 h5 b5 => sg_K1 ?_)
  (try simp only [fn_upper, fn_betw] at h5)
  refine sg_if_ne (pc := 8) (tgt := 37) (dc_X7_upperOf_0.1.2.1.1) (by decide) (fun c8 => ?_) (fun c8 => ?_)
  · refine sg_iload_n (pc := 37) (j := 0) (dc_X7_upperOf_0.2.2.2.2) rfl rfl ?_
    refine sg_bipush (pc := 38) (z := 32) (dc_X7_upperOf_38.1.1.1.1) (by decide) ?_
    first | refine sg_isubB (pc := 40) (dc_X7_upperOf_38.1.1.1.2) (by omega) (by omega) ?_ | refine sg_isub (pc := 40) (dc_X7_upperOf_38.1.1.1.2) ?_
    refine sg_iret (pc := 41) (dc_X7_upperOf_38.1.1.2.1) rfl (by first | exact Nat.le_of_ble_eq_true rfl | omega) (by first | exact Nat.le_of_ble_eq_true rfl | omega) ?_
    exact hQ _ (by (try simp only [fn_upper, fn_betw] at *) <;> first | omega | ((repeat' split) <;> omega) | grind)
  · refine sg_iload_n (pc := 11) (j := 0) (dc_X7_upperOf_0.1.2.1.2) rfl rfl ?_
    refine sg_sipush (pc := 12) (z := 224) (dc_X7_upperOf_0.1.2.2.1) (by decide) ?_
    refine sg_sipush (pc := 15) (z := 246) (dc_X7_upperOf_0.1.2.2.2) (by decide) ?_
    refine sg_cS3 (pc := 18) (d' := d - 1) (mc' := 0) (ms' := 0) g (dc_X7_upperOf_0.2.1.1.1) cb_X7_isOf ml_X7_22 ms_X7_isOf (Nat.le_of_ble_eq_true rfl) (by first | exact jl_d0 hd rfl | omega) (by first | exact Nat.le_of_ble_eq_true rfl | omega) (by first | exact Nat.le_of_ble_eq_true rfl | omega) ?_
    refine s_X7_isOf g (by first | exact jl_d1 hd rfl | omega) (fun z18 h18 b18 => sg_K1 ?_)
    (try simp only [fn_upper, fn_betw] at h18)
    refine sg_if_ne (pc := 21) (tgt := 37) (dc_X7_upperOf_0.2.1.1.2) (by decide) (fun c21 => ?_) (fun c21 => ?_)
    · refine sg_iload_n (pc := 37) (j := 0) (dc_X7_upperOf_0.2.2.2.2) rfl rfl ?_
      refine sg_bipush (pc := 38) (z := 32) (dc_X7_upperOf_38.1.1.1.1) (by decide) ?_
      first | refine sg_isubB (pc := 40) (dc_X7_upperOf_38.1.1.1.2) (by omega) (by omega) ?_ | refine sg_isub (pc := 40) (dc_X7_upperOf_38.1.1.1.2) ?_
      refine sg_iret (pc := 41) (dc_X7_upperOf_38.1.1.2.1) rfl (by first | exact Nat.le_of_ble_eq_true rfl | omega) (by first | exact Nat.le_of_ble_eq_true rfl | omega) ?_
      exact hQ _ (by (try simp only [fn_upper, fn_betw] at *) <;> first | omega | ((repeat' split) <;> omega) | grind)
    · refine sg_iload_n (pc := 24) (j := 0) (dc_X7_upperOf_0.2.1.2.1) rfl rfl ?_
      refine sg_sipush (pc := 25) (z := 248) (dc_X7_upperOf_0.2.1.2.2) (by decide) ?_
      refine sg_sipush (pc := 28) (z := 254) (dc_X7_upperOf_0.2.2.1.1) (by decide) ?_
      refine sg_cS3 (pc := 31) (d' := d - 1) (mc' := 0) (ms' := 0) g (dc_X7_upperOf_0.2.2.1.2) cb_X7_isOf ml_X7_22 ms_X7_isOf (Nat.le_of_ble_eq_true rfl) (by first | exact jl_d0 hd rfl | omega) (by first | exact Nat.le_of_ble_eq_true rfl | omega) (by first | exact Nat.le_of_ble_eq_true rfl | omega) ?_
      refine s_X7_isOf g (by first | exact jl_d1 hd rfl | omega) (fun z31 h31 b31 => sg_K1 ?_)
      (try simp only [fn_upper, fn_betw] at h31)
      refine sg_if_eq (pc := 34) (tgt := 42) (dc_X7_upperOf_0.2.2.2.1) (by decide) (fun c34 => ?_) (fun c34 => ?_)
      · refine sg_iload_n (pc := 42) (j := 0) (dc_X7_upperOf_38.1.1.2.2) rfl rfl ?_
        refine sg_sipush (pc := 43) (z := 181) (dc_X7_upperOf_38.1.2.1.1) (by decide) ?_
        refine sg_icmp_ne (pc := 46) (tgt := 55) (dc_X7_upperOf_38.1.2.1.2) (by decide) (fun c46 => ?_) (fun c46 => ?_)
        · refine sg_iload_n (pc := 55) (j := 0) (dc_X7_upperOf_38.2.1.1.1) rfl rfl ?_
          refine sg_sipush (pc := 56) (z := 255) (dc_X7_upperOf_38.2.1.1.2) (by decide) ?_
          refine sg_icmp_ne (pc := 59) (tgt := 68) (dc_X7_upperOf_38.2.1.2.1) (by decide) (fun c59 => ?_) (fun c59 => ?_)
          · refine sg_iload_n (pc := 68) (j := 0) (dc_X7_upperOf_38.2.2.1.2) rfl rfl ?_
            refine sg_iret (pc := 69) (dc_X7_upperOf_38.2.2.2.1) rfl (by first | exact Nat.le_of_ble_eq_true rfl | omega) (by first | exact Nat.le_of_ble_eq_true rfl | omega) ?_
            exact hQ _ (by (try simp only [fn_upper, fn_betw] at *) <;> first | omega | ((repeat' split) <;> omega) | grind)
          · refine sg_sipush (pc := 62) (z := 376) (dc_X7_upperOf_38.2.1.2.2) (by decide) ?_
            refine sg_goto (pc := 65) (tgt := 69) (dc_X7_upperOf_38.2.2.1.1) (by decide) ?_
            refine sg_iret (pc := 69) (dc_X7_upperOf_38.2.2.2.1) rfl (by first | exact Nat.le_of_ble_eq_true rfl | omega) (by first | exact Nat.le_of_ble_eq_true rfl | omega) ?_
            exact hQ _ (by (try simp only [fn_upper, fn_betw] at *) <;> first | omega | ((repeat' split) <;> omega) | grind)
        · refine sg_sipush (pc := 49) (z := 924) (dc_X7_upperOf_38.1.2.2.1) (by decide) ?_
          refine sg_goto (pc := 52) (tgt := 69) (dc_X7_upperOf_38.1.2.2.2) (by decide) ?_
          refine sg_iret (pc := 69) (dc_X7_upperOf_38.2.2.2.1) rfl (by first | exact Nat.le_of_ble_eq_true rfl | omega) (by first | exact Nat.le_of_ble_eq_true rfl | omega) ?_
          exact hQ _ (by (try simp only [fn_upper, fn_betw] at *) <;> first | omega | ((repeat' split) <;> omega) | grind)
      · refine sg_iload_n (pc := 37) (j := 0) (dc_X7_upperOf_0.2.2.2.2) rfl rfl ?_
        refine sg_bipush (pc := 38) (z := 32) (dc_X7_upperOf_38.1.1.1.1) (by decide) ?_
        first | refine sg_isubB (pc := 40) (dc_X7_upperOf_38.1.1.1.2) (by omega) (by omega) ?_ | refine sg_isub (pc := 40) (dc_X7_upperOf_38.1.1.1.2) ?_
        refine sg_iret (pc := 41) (dc_X7_upperOf_38.1.1.2.1) rfl (by first | exact Nat.le_of_ble_eq_true rfl | omega) (by first | exact Nat.le_of_ble_eq_true rfl | omega) ?_
        exact hQ _ (by (try simp only [fn_upper, fn_betw] at *) <;> first | omega | ((repeat' split) <;> omega) | grind)

set_option maxRecDepth 100000 in
theorem s_X7_valueOf {w : sg_W} {Q : sg_O → sg_H → Prop} {h : sg_H} (g : sg_G w) {d : Nat} (hd : 2 ≤ d) {x : Int} (hQ : ∀ z, z = fn_val x → Q (.inl (some (sg_i z))) h) : sg_C w mi_X7_valueOf d 0 0 [sg_i x] h Q := by
  refine sg_of pn_X7 (Nat.le_of_ble_eq_true rfl) ?_
  refine sg_iload_n (pc := 0) (j := 0) (dc_X7_valueOf_0.1.1.1.1) rfl rfl ?_
  refine sg_bipush (pc := 1) (z := 48) (dc_X7_valueOf_0.1.1.1.2) (by decide) ?_
  refine sg_bipush (pc := 3) (z := 57) (dc_X7_valueOf_0.1.1.2.1) (by decide) ?_
  refine sg_cS3 (pc := 5) (d' := d - 1) (mc' := 0) (ms' := 0) g (dc_X7_valueOf_0.1.1.2.2) cb_X7_isOf ml_X7_22 ms_X7_isOf (Nat.le_of_ble_eq_true rfl) (by first | exact jl_d0 hd rfl | omega) (by first | exact Nat.le_of_ble_eq_true rfl | omega) (by first | exact Nat.le_of_ble_eq_true rfl | omega) ?_
  refine s_X7_isOf g (by first | exact jl_d1 hd rfl | omega) (fun z5 h5 b5 => sg_K1 ?_)
  (try simp only [fn_val, fn_plain, fn_betw] at h5)
  refine sg_if_eq (pc := 8) (tgt := 16) (dc_X7_valueOf_0.1.2.1.1) (by decide) (fun c8 => ?_) (fun c8 => ?_)
  · refine sg_iload_n (pc := 16) (j := 0) (dc_X7_valueOf_0.2.1.1.2) rfl rfl ?_
    refine sg_bipush (pc := 17) (z := 65) (dc_X7_valueOf_0.2.1.2.1) (by decide) ?_
    refine sg_bipush (pc := 19) (z := 90) (dc_X7_valueOf_0.2.1.2.2) (by decide) ?_
    refine sg_cS3 (pc := 21) (d' := d - 1) (mc' := 0) (ms' := 0) g (dc_X7_valueOf_0.2.2.1.1) cb_X7_isOf ml_X7_22 ms_X7_isOf (Nat.le_of_ble_eq_true rfl) (by first | exact jl_d0 hd rfl | omega) (by first | exact Nat.le_of_ble_eq_true rfl | omega) (by first | exact Nat.le_of_ble_eq_true rfl | omega) ?_
    refine s_X7_isOf g (by first | exact jl_d1 hd rfl | omega) (fun z21 h21 b21 => sg_K1 ?_)
    (try simp only [fn_val, fn_plain, fn_betw] at h21)
    refine sg_if_eq (pc := 24) (tgt := 32) (dc_X7_valueOf_0.2.2.1.2) (by decide) (fun c24 => ?_) (fun c24 => ?_)
    · refine sg_iload_n (pc := 32) (j := 0) (dc_X7_valueOf_30.1.1.2.1) rfl rfl ?_
      refine sg_bipush (pc := 33) (z := 97) (dc_X7_valueOf_30.1.1.2.2) (by decide) ?_
      refine sg_bipush (pc := 35) (z := 122) (dc_X7_valueOf_30.1.2.1.1) (by decide) ?_
      refine sg_cS3 (pc := 37) (d' := d - 1) (mc' := 0) (ms' := 0) g (dc_X7_valueOf_30.1.2.1.2) cb_X7_isOf ml_X7_22 ms_X7_isOf (Nat.le_of_ble_eq_true rfl) (by first | exact jl_d0 hd rfl | omega) (by first | exact Nat.le_of_ble_eq_true rfl | omega) (by first | exact Nat.le_of_ble_eq_true rfl | omega) ?_
      refine s_X7_isOf g (by first | exact jl_d1 hd rfl | omega) (fun z37 h37 b37 => sg_K1 ?_)
      (try simp only [fn_val, fn_plain, fn_betw] at h37)
      refine sg_if_eq (pc := 40) (tgt := 48) (dc_X7_valueOf_30.1.2.2.1) (by decide) (fun c40 => ?_) (fun c40 => ?_)
      · refine sg_iload_n (pc := 48) (j := 0) (dc_X7_valueOf_30.2.1.2.2) rfl rfl ?_
        refine sg_sipush (pc := 49) (z := 178) (dc_X7_valueOf_30.2.2.1.1) (by decide) ?_
        refine sg_sipush (pc := 52) (z := 179) (dc_X7_valueOf_30.2.2.1.2) (by decide) ?_
        refine sg_cS3 (pc := 55) (d' := d - 1) (mc' := 0) (ms' := 0) g (dc_X7_valueOf_30.2.2.2.1) cb_X7_isOf ml_X7_22 ms_X7_isOf (Nat.le_of_ble_eq_true rfl) (by first | exact jl_d0 hd rfl | omega) (by first | exact Nat.le_of_ble_eq_true rfl | omega) (by first | exact Nat.le_of_ble_eq_true rfl | omega) ?_
        refine s_X7_isOf g (by first | exact jl_d1 hd rfl | omega) (fun z55 h55 b55 => sg_K1 ?_)
        (try simp only [fn_val, fn_plain, fn_betw] at h55)
        refine sg_if_eq (pc := 58) (tgt := 67) (dc_X7_valueOf_30.2.2.2.2) (by decide) (fun c58 => ?_) (fun c58 => ?_)
        · refine sg_iload_n (pc := 67) (j := 0) (dc_X7_valueOf_61.1.2.1.1) rfl rfl ?_
          refine sg_sipush (pc := 68) (z := 185) (dc_X7_valueOf_61.1.2.1.2) (by decide) ?_
          refine sg_icmp_ne (pc := 71) (tgt := 78) (dc_X7_valueOf_61.1.2.2.1) (by decide) (fun c71 => ?_) (fun c71 => ?_)
          · refine sg_iload_n (pc := 78) (j := 0) (dc_X7_valueOf_61.2.1.1.2) rfl rfl ?_
            refine sg_sipush (pc := 79) (z := 188) (dc_X7_valueOf_61.2.1.2.1) (by decide) ?_
            refine sg_sipush (pc := 82) (z := 190) (dc_X7_valueOf_61.2.1.2.2) (by decide) ?_
            refine sg_cS3 (pc := 85) (d' := d - 1) (mc' := 0) (ms' := 0) g (dc_X7_valueOf_61.2.2.1.1) cb_X7_isOf ml_X7_22 ms_X7_isOf (Nat.le_of_ble_eq_true rfl) (by first | exact jl_d0 hd rfl | omega) (by first | exact Nat.le_of_ble_eq_true rfl | omega) (by first | exact Nat.le_of_ble_eq_true rfl | omega) ?_
            refine s_X7_isOf g (by first | exact jl_d1 hd rfl | omega) (fun z85 h85 b85 => sg_K1 ?_)
            (try simp only [fn_val, fn_plain, fn_betw] at h85)
            refine sg_if_eq (pc := 88) (tgt := 96) (dc_X7_valueOf_61.2.2.1.2) (by decide) (fun c88 => ?_) (fun c88 => ?_)
            · refine sg_iconst (pc := 96) (z := -1) (dc_X7_valueOf_96.1) (by decide) ?_
              refine sg_iret (pc := 97) (dc_X7_valueOf_96.2) rfl (by first | exact Nat.le_of_ble_eq_true rfl | omega) (by first | exact Nat.le_of_ble_eq_true rfl | omega) ?_
              exact hQ _ (by (try simp only [fn_val, fn_plain, fn_betw] at *) <;> first | omega | ((repeat' split) <;> omega) | grind)
            · refine sg_bipush (pc := 91) (z := -2) (dc_X7_valueOf_61.2.2.2.1) (by decide) ?_
              refine sg_goto (pc := 93) (tgt := 97) (dc_X7_valueOf_61.2.2.2.2) (by decide) ?_
              refine sg_iret (pc := 97) (dc_X7_valueOf_96.2) rfl (by first | exact Nat.le_of_ble_eq_true rfl | omega) (by first | exact Nat.le_of_ble_eq_true rfl | omega) ?_
              exact hQ _ (by (try simp only [fn_val, fn_plain, fn_betw] at *) <;> first | omega | ((repeat' split) <;> omega) | grind)
          · refine sg_iconst (pc := 74) (z := 1) (dc_X7_valueOf_61.1.2.2.2) (by decide) ?_
            refine sg_goto (pc := 75) (tgt := 97) (dc_X7_valueOf_61.2.1.1.1) (by decide) ?_
            refine sg_iret (pc := 97) (dc_X7_valueOf_96.2) rfl (by first | exact Nat.le_of_ble_eq_true rfl | omega) (by first | exact Nat.le_of_ble_eq_true rfl | omega) ?_
            exact hQ _ (by (try simp only [fn_val, fn_plain, fn_betw] at *) <;> first | omega | ((repeat' split) <;> omega) | grind)
        · refine sg_iload_n (pc := 61) (j := 0) (dc_X7_valueOf_61.1.1.1.1) rfl rfl ?_
          refine sg_sipush (pc := 62) (z := 176) (dc_X7_valueOf_61.1.1.1.2) (by decide) ?_
          first | refine sg_isubB (pc := 65) (dc_X7_valueOf_61.1.1.2.1) (by omega) (by omega) ?_ | refine sg_isub (pc := 65) (dc_X7_valueOf_61.1.1.2.1) ?_
          refine sg_iret (pc := 66) (dc_X7_valueOf_61.1.1.2.2) rfl (by first | exact Nat.le_of_ble_eq_true rfl | omega) (by first | exact Nat.le_of_ble_eq_true rfl | omega) ?_
          exact hQ _ (by (try simp only [fn_val, fn_plain, fn_betw] at *) <;> first | omega | ((repeat' split) <;> omega) | grind)
      · refine sg_iload_n (pc := 43) (j := 0) (dc_X7_valueOf_30.1.2.2.2) rfl rfl ?_
        refine sg_bipush (pc := 44) (z := 87) (dc_X7_valueOf_30.2.1.1.1) (by decide) ?_
        first | refine sg_isubB (pc := 46) (dc_X7_valueOf_30.2.1.1.2) (by omega) (by omega) ?_ | refine sg_isub (pc := 46) (dc_X7_valueOf_30.2.1.1.2) ?_
        refine sg_iret (pc := 47) (dc_X7_valueOf_30.2.1.2.1) rfl (by first | exact Nat.le_of_ble_eq_true rfl | omega) (by first | exact Nat.le_of_ble_eq_true rfl | omega) ?_
        exact hQ _ (by (try simp only [fn_val, fn_plain, fn_betw] at *) <;> first | omega | ((repeat' split) <;> omega) | grind)
    · refine sg_iload_n (pc := 27) (j := 0) (dc_X7_valueOf_0.2.2.2.1) rfl rfl ?_
      refine sg_bipush (pc := 28) (z := 55) (dc_X7_valueOf_0.2.2.2.2) (by decide) ?_
      first | refine sg_isubB (pc := 30) (dc_X7_valueOf_30.1.1.1.1) (by omega) (by omega) ?_ | refine sg_isub (pc := 30) (dc_X7_valueOf_30.1.1.1.1) ?_
      refine sg_iret (pc := 31) (dc_X7_valueOf_30.1.1.1.2) rfl (by first | exact Nat.le_of_ble_eq_true rfl | omega) (by first | exact Nat.le_of_ble_eq_true rfl | omega) ?_
      exact hQ _ (by (try simp only [fn_val, fn_plain, fn_betw] at *) <;> first | omega | ((repeat' split) <;> omega) | grind)
  · refine sg_iload_n (pc := 11) (j := 0) (dc_X7_valueOf_0.1.2.1.2) rfl rfl ?_
    refine sg_bipush (pc := 12) (z := 48) (dc_X7_valueOf_0.1.2.2.1) (by decide) ?_
    first | refine sg_isubB (pc := 14) (dc_X7_valueOf_0.1.2.2.2) (by omega) (by omega) ?_ | refine sg_isub (pc := 14) (dc_X7_valueOf_0.1.2.2.2) ?_
    refine sg_iret (pc := 15) (dc_X7_valueOf_0.2.1.1.1) rfl (by first | exact Nat.le_of_ble_eq_true rfl | omega) (by first | exact Nat.le_of_ble_eq_true rfl | omega) ?_
    exact hQ _ (by (try simp only [fn_val, fn_plain, fn_betw] at *) <;> first | omega | ((repeat' split) <;> omega) | grind)

set_option maxRecDepth 100000 in
theorem s_X7_isRadix {w : sg_W} {Q : sg_O → sg_H → Prop} {h : sg_H} (g : sg_G w) {d : Nat} (hd : 2 ≤ d) {x : Int} (hQ : ∀ z, z = fn_radix x → (z = 0 ∨ z = 1) → Q (.inl (some (sg_i z))) h) : sg_C w mi_X7_isRadix d 0 0 [sg_i x] h Q := by
  refine sg_of pn_X7 (Nat.le_of_ble_eq_true rfl) ?_
  refine sg_iload_n (pc := 0) (j := 0) (dc_X7_isRadix_0.1.1.1) rfl rfl ?_
  refine sg_iconst (pc := 1) (z := 2) (dc_X7_isRadix_0.1.1.2) (by decide) ?_
  refine sg_bipush (pc := 2) (z := 36) (dc_X7_isRadix_0.1.2.1) (by decide) ?_
  refine sg_cS3 (pc := 4) (d' := d - 1) (mc' := 0) (ms' := 0) g (dc_X7_isRadix_0.1.2.2) cb_X7_isOf ml_X7_22 ms_X7_isOf (Nat.le_of_ble_eq_true rfl) (by first | exact jl_d0 hd rfl | omega) (by first | exact Nat.le_of_ble_eq_true rfl | omega) (by first | exact Nat.le_of_ble_eq_true rfl | omega) ?_
  refine s_X7_isOf g (by first | exact jl_d1 hd rfl | omega) (fun z4 h4 b4 => sg_K1 ?_)
  (try simp only [fn_radix, fn_betw] at h4)
  refine sg_zret (pc := 7) (dc_X7_isRadix_0.2.1.1) rfl (by first | exact Or.inl rfl | exact Or.inr rfl | omega | assumption) (by first | exact Nat.le_of_ble_eq_true rfl | omega) (by first | exact Nat.le_of_ble_eq_true rfl | omega) ?_
  exact hQ _ (by (try simp only [fn_radix, fn_betw] at *) <;> first | omega | ((repeat' split) <;> omega) | grind) (by first | exact Or.inl rfl | exact Or.inr rfl | omega | assumption)

set_option maxRecDepth 100000 in
theorem s_X7_numberOf {w : sg_W} {Q : sg_O → sg_H → Prop} {h : sg_H} (g : sg_G w) {d : Nat} (hd : 3 ≤ d) {x r : Int} (hQ : ∀ z, z = fn_num x r → Q (.inl (some (sg_i z))) h) : sg_C w mi_X7_numberOf d 0 0 [sg_i x, sg_i r] h Q := by
  refine sg_of pn_X7 (Nat.le_of_ble_eq_true rfl) ?_
  refine sg_iload_n (pc := 0) (j := 0) (dc_X7_numberOf_0.1.1.1.1) rfl rfl ?_
  refine sg_sipush (pc := 1) (z := 128) (dc_X7_numberOf_0.1.1.1.2) (by decide) ?_
  refine sg_icmp_ge (pc := 4) (tgt := 14) (dc_X7_numberOf_0.1.1.2.1) (by decide) (fun c4 => ?_) (fun c4 => ?_)
  · refine sg_iconst (pc := 14) (z := -1) (dc_X7_numberOf_0.1.2.2.1) (by decide) ?_
    refine sg_istore_n (pc := 15) (j := 2) (dc_X7_numberOf_0.1.2.2.2) rfl (by decide) ?_
    refine sg_iload_n (pc := 16) (j := 1) (dc_X7_numberOf_0.2.1.1.1) rfl rfl ?_
    refine sg_cS1 (pc := 17) (d' := d - 1) (mc' := 0) (ms' := 0) g (dc_X7_numberOf_0.2.1.1.2) cb_X7_isRadix ml_X7_37 ms_X7_isRadix (Nat.le_of_ble_eq_true rfl) (by first | exact jl_d0 hd rfl | omega) (by first | exact Nat.le_of_ble_eq_true rfl | omega) (by first | exact Nat.le_of_ble_eq_true rfl | omega) ?_
    refine s_X7_isRadix g (by first | exact jl_d1 hd rfl | omega) (fun z17 h17 b17 => sg_K1 ?_)
    (try simp only [fn_num, fn_val, fn_plain, fn_radix] at h17)
    refine sg_if_eq (pc := 20) (tgt := 32) (dc_X7_numberOf_0.2.1.2.1) (by decide) (fun c20 => ?_) (fun c20 => ?_)
    · refine sg_iconst (pc := 32) (z := -1) (dc_X7_numberOf_32.1) (by decide) ?_
      refine sg_iret (pc := 33) (dc_X7_numberOf_32.2) rfl (by first | exact Nat.le_of_ble_eq_true rfl | omega) (by first | exact Nat.le_of_ble_eq_true rfl | omega) ?_
      exact hQ _ (by (try simp only [fn_num, fn_val, fn_plain, fn_radix] at *) <;> first | omega | ((repeat' split) <;> omega) | grind)
    · refine sg_iload_n (pc := 23) (j := 2) (dc_X7_numberOf_0.2.1.2.2) rfl rfl ?_
      refine sg_iload_n (pc := 24) (j := 1) (dc_X7_numberOf_0.2.2.1.1) rfl rfl ?_
      refine sg_icmp_ge (pc := 25) (tgt := 32) (dc_X7_numberOf_0.2.2.1.2) (by decide) (fun c25 => ?_) (fun c25 => ?_)
      · refine sg_iconst (pc := 32) (z := -1) (dc_X7_numberOf_32.1) (by decide) ?_
        refine sg_iret (pc := 33) (dc_X7_numberOf_32.2) rfl (by first | exact Nat.le_of_ble_eq_true rfl | omega) (by first | exact Nat.le_of_ble_eq_true rfl | omega) ?_
        exact hQ _ (by (try simp only [fn_num, fn_val, fn_plain, fn_radix] at *) <;> first | omega | ((repeat' split) <;> omega) | grind)
      · refine sg_iload_n (pc := 28) (j := 2) (dc_X7_numberOf_0.2.2.2.1) rfl rfl ?_
        refine sg_goto (pc := 29) (tgt := 33) (dc_X7_numberOf_0.2.2.2.2) (by decide) ?_
        refine sg_iret (pc := 33) (dc_X7_numberOf_32.2) rfl (by first | exact Nat.le_of_ble_eq_true rfl | omega) (by first | exact Nat.le_of_ble_eq_true rfl | omega) ?_
        exact hQ _ (by (try simp only [fn_num, fn_val, fn_plain, fn_radix] at *) <;> first | omega | ((repeat' split) <;> omega) | grind)
  · refine sg_iload_n (pc := 7) (j := 0) (dc_X7_numberOf_0.1.1.2.2) rfl rfl ?_
    refine sg_cS1 (pc := 8) (d' := d - 1) (mc' := 0) (ms' := 0) g (dc_X7_numberOf_0.1.2.1.1) cb_X7_valueOf ml_X7_33 ms_X7_valueOf (Nat.le_of_ble_eq_true rfl) (by first | exact jl_d0 hd rfl | omega) (by first | exact Nat.le_of_ble_eq_true rfl | omega) (by first | exact Nat.le_of_ble_eq_true rfl | omega) ?_
    refine s_X7_valueOf g (by first | exact jl_d1 hd rfl | omega) (fun z8 h8 => sg_K1 ?_)
    (try simp only [fn_num, fn_val, fn_plain, fn_radix] at h8)
    refine sg_goto (pc := 11) (tgt := 15) (dc_X7_numberOf_0.1.2.1.2) (by decide) ?_
    refine sg_istore_n (pc := 15) (j := 2) (dc_X7_numberOf_0.1.2.2.2) rfl (by decide) ?_
    refine sg_iload_n (pc := 16) (j := 1) (dc_X7_numberOf_0.2.1.1.1) rfl rfl ?_
    refine sg_cS1 (pc := 17) (d' := d - 1) (mc' := 0) (ms' := 0) g (dc_X7_numberOf_0.2.1.1.2) cb_X7_isRadix ml_X7_37 ms_X7_isRadix (Nat.le_of_ble_eq_true rfl) (by first | exact jl_d0 hd rfl | omega) (by first | exact Nat.le_of_ble_eq_true rfl | omega) (by first | exact Nat.le_of_ble_eq_true rfl | omega) ?_
    refine s_X7_isRadix g (by first | exact jl_d1 hd rfl | omega) (fun z17 h17 b17 => sg_K1 ?_)
    (try simp only [fn_num, fn_val, fn_plain, fn_radix] at h17)
    refine sg_if_eq (pc := 20) (tgt := 32) (dc_X7_numberOf_0.2.1.2.1) (by decide) (fun c20 => ?_) (fun c20 => ?_)
    · refine sg_iconst (pc := 32) (z := -1) (dc_X7_numberOf_32.1) (by decide) ?_
      refine sg_iret (pc := 33) (dc_X7_numberOf_32.2) rfl (by first | exact Nat.le_of_ble_eq_true rfl | omega) (by first | exact Nat.le_of_ble_eq_true rfl | omega) ?_
      exact hQ _ (by (try simp only [fn_num, fn_val, fn_plain, fn_radix] at *) <;> first | omega | ((repeat' split) <;> omega) | grind)
    · refine sg_iload_n (pc := 23) (j := 2) (dc_X7_numberOf_0.2.1.2.2) rfl rfl ?_
      refine sg_iload_n (pc := 24) (j := 1) (dc_X7_numberOf_0.2.2.1.1) rfl rfl ?_
      refine sg_icmp_ge (pc := 25) (tgt := 32) (dc_X7_numberOf_0.2.2.1.2) (by decide) (fun c25 => ?_) (fun c25 => ?_)
      · refine sg_iconst (pc := 32) (z := -1) (dc_X7_numberOf_32.1) (by decide) ?_
        refine sg_iret (pc := 33) (dc_X7_numberOf_32.2) rfl (by first | exact Nat.le_of_ble_eq_true rfl | omega) (by first | exact Nat.le_of_ble_eq_true rfl | omega) ?_
        exact hQ _ (by (try simp only [fn_num, fn_val, fn_plain, fn_radix] at *) <;> first | omega | ((repeat' split) <;> omega) | grind)
      · refine sg_iload_n (pc := 28) (j := 2) (dc_X7_numberOf_0.2.2.2.1) rfl rfl ?_
        refine sg_goto (pc := 29) (tgt := 33) (dc_X7_numberOf_0.2.2.2.2) (by decide) ?_
        refine sg_iret (pc := 33) (dc_X7_numberOf_32.2) rfl (by first | exact Nat.le_of_ble_eq_true rfl | omega) (by first | exact Nat.le_of_ble_eq_true rfl | omega) ?_
        exact hQ _ (by (try simp only [fn_num, fn_val, fn_plain, fn_radix] at *) <;> first | omega | ((repeat' split) <;> omega) | grind)

set_option maxRecDepth 100000 in
theorem s_X7_digitOf {w : sg_W} {Q : sg_O → sg_H → Prop} {h : sg_H} (g : sg_G w) {d : Nat} (hd : 3 ≤ d) {x r : Int} (hQ : ∀ z, z = fn_digit x r → Q (.inl (some (sg_i z))) h) : sg_C w mi_X7_digitOf d 0 0 [sg_i x, sg_i r] h Q := by
  refine sg_of pn_X7 (Nat.le_of_ble_eq_true rfl) ?_
  refine sg_iload_n (pc := 0) (j := 1) (dc_X7_digitOf_0.1.1.1.1) rfl rfl ?_
  refine sg_cS1 (pc := 1) (d' := d - 1) (mc' := 0) (ms' := 0) g (dc_X7_digitOf_0.1.1.1.2) cb_X7_isRadix ml_X7_37 ms_X7_isRadix (Nat.le_of_ble_eq_true rfl) (by first | exact jl_d0 hd rfl | omega) (by first | exact Nat.le_of_ble_eq_true rfl | omega) (by first | exact Nat.le_of_ble_eq_true rfl | omega) ?_
  refine s_X7_isRadix g (by first | exact jl_d1 hd rfl | omega) (fun z1 h1 b1 => sg_K1 ?_)
  (try simp only [fn_digit, fn_radix, fn_betw] at h1)
  refine sg_if_eq (pc := 4) (tgt := 18) (dc_X7_digitOf_0.1.1.2.1) (by decide) (fun c4 => ?_) (fun c4 => ?_)
  · refine sg_iconst (pc := 18) (z := 0) (dc_X7_digitOf_0.2.1.2.1) (by decide) ?_
    refine sg_goto (pc := 19) (tgt := 37) (dc_X7_digitOf_0.2.1.2.2) (by decide) ?_
    refine sg_iret (pc := 37) (dc_X7_digitOf_29.2.1.1) rfl (by first | exact Nat.le_of_ble_eq_true rfl | omega) (by first | exact Nat.le_of_ble_eq_true rfl | omega) ?_
    exact hQ _ (by (try simp only [fn_digit, fn_radix, fn_betw] at *) <;> first | omega | ((repeat' split) <;> omega) | grind)
  · refine sg_iload_n (pc := 7) (j := 0) (dc_X7_digitOf_0.1.1.2.2) rfl rfl ?_
    refine sg_iconst (pc := 8) (z := 0) (dc_X7_digitOf_0.1.2.1.1) (by decide) ?_
    refine sg_iload_n (pc := 9) (j := 1) (dc_X7_digitOf_0.1.2.1.2) rfl rfl ?_
    refine sg_iconst (pc := 10) (z := 1) (dc_X7_digitOf_0.1.2.2.1) (by decide) ?_
    first | refine sg_isubB (pc := 11) (dc_X7_digitOf_0.1.2.2.2) (by omega) (by omega) ?_ | refine sg_isub (pc := 11) (dc_X7_digitOf_0.1.2.2.2) ?_
    refine sg_cS3 (pc := 12) (d' := d - 1) (mc' := 0) (ms' := 0) g (dc_X7_digitOf_0.2.1.1.1) cb_X7_isOf ml_X7_22 ms_X7_isOf (Nat.le_of_ble_eq_true rfl) (by first | exact jl_d0 hd rfl | omega) (by first | exact Nat.le_of_ble_eq_true rfl | omega) (by first | exact Nat.le_of_ble_eq_true rfl | omega) ?_
    refine s_X7_isOf g (by first | exact jl_d1 hd rfl | omega) (fun z12 h12 b12 => sg_K1 ?_)
    (try simp only [fn_digit, fn_radix, fn_betw] at h12)
    refine sg_if_ne (pc := 15) (tgt := 22) (dc_X7_digitOf_0.2.1.1.2) (by decide) (fun c15 => ?_) (fun c15 => ?_)
    · refine sg_iload_n (pc := 22) (j := 0) (dc_X7_digitOf_0.2.2.1.1) rfl rfl ?_
      refine sg_iload_n (pc := 23) (j := 0) (dc_X7_digitOf_0.2.2.1.2) rfl rfl ?_
      refine sg_bipush (pc := 24) (z := 10) (dc_X7_digitOf_0.2.2.2.1) (by decide) ?_
      refine sg_icmp_ge (pc := 26) (tgt := 34) (dc_X7_digitOf_0.2.2.2.2) (by decide) (fun c26 => ?_) (fun c26 => ?_)
      · refine sg_bipush (pc := 34) (z := 87) (dc_X7_digitOf_29.1.2.1) (by decide) ?_
        first | refine sg_iaddB (pc := 36) (dc_X7_digitOf_29.1.2.2) (by omega) (by omega) ?_ | refine sg_iadd (pc := 36) (dc_X7_digitOf_29.1.2.2) ?_
        refine sg_iret (pc := 37) (dc_X7_digitOf_29.2.1.1) rfl (by first | exact Nat.le_of_ble_eq_true rfl | omega) (by first | exact Nat.le_of_ble_eq_true rfl | omega) ?_
        exact hQ _ (by (try simp only [fn_digit, fn_radix, fn_betw] at *) <;> first | omega | ((repeat' split) <;> omega) | grind)
      · refine sg_bipush (pc := 29) (z := 48) (dc_X7_digitOf_29.1.1.1) (by decide) ?_
        refine sg_goto (pc := 31) (tgt := 36) (dc_X7_digitOf_29.1.1.2) (by decide) ?_
        first | refine sg_iaddB (pc := 36) (dc_X7_digitOf_29.1.2.2) (by omega) (by omega) ?_ | refine sg_iadd (pc := 36) (dc_X7_digitOf_29.1.2.2) ?_
        refine sg_iret (pc := 37) (dc_X7_digitOf_29.2.1.1) rfl (by first | exact Nat.le_of_ble_eq_true rfl | omega) (by first | exact Nat.le_of_ble_eq_true rfl | omega) ?_
        exact hQ _ (by (try simp only [fn_digit, fn_radix, fn_betw] at *) <;> first | omega | ((repeat' split) <;> omega) | grind)
    · refine sg_iconst (pc := 18) (z := 0) (dc_X7_digitOf_0.2.1.2.1) (by decide) ?_
      refine sg_goto (pc := 19) (tgt := 37) (dc_X7_digitOf_0.2.1.2.2) (by decide) ?_
      refine sg_iret (pc := 37) (dc_X7_digitOf_29.2.1.1) rfl (by first | exact Nat.le_of_ble_eq_true rfl | omega) (by first | exact Nat.le_of_ble_eq_true rfl | omega) ?_
      exact hQ _ (by (try simp only [fn_digit, fn_radix, fn_betw] at *) <;> first | omega | ((repeat' split) <;> omega) | grind)

set_option maxRecDepth 100000 in
theorem s_X7_isNoRow {w : sg_W} {Q : sg_O → sg_H → Prop} {h : sg_H} (g : sg_G w) {d : Nat} (hd : 2 ≤ d) {x : Int} (hQ : ∀ z, z = fm_no x 3 → (z = 0 ∨ z = 1) → Q (.inl (some (sg_i z))) h) : sg_C w mi_X7_isNoRow d 0 0 [sg_i x] h Q := by
  refine sg_of pn_X7 (Nat.le_of_ble_eq_true rfl) ?_
  refine sg_iload_n (pc := 0) (j := 0) (dc_X7_isNoRow_0.1.1.1.1) rfl rfl ?_
  refine sg_iconst (pc := 1) (z := 0) (dc_X7_isNoRow_0.1.1.1.2) (by decide) ?_
  refine sg_iconst (pc := 2) (z := 3) (dc_X7_isNoRow_0.1.1.2.1) (by decide) ?_
  refine sg_cS3 (pc := 3) (d' := d - 1) (mc' := 0) (ms' := 0) g (dc_X7_isNoRow_0.1.1.2.2) cb_X7_isOf ml_X7_22 ms_X7_isOf (Nat.le_of_ble_eq_true rfl) (by first | exact jl_d0 hd rfl | omega) (by first | exact Nat.le_of_ble_eq_true rfl | omega) (by first | exact Nat.le_of_ble_eq_true rfl | omega) ?_
  refine s_X7_isOf g (by first | exact jl_d1 hd rfl | omega) (fun z3 h3 b3 => sg_K1 ?_)
  (try simp only [fm_no, fn_betw] at h3)
  refine sg_if_ne (pc := 6) (tgt := 13) (dc_X7_isNoRow_0.1.2.1.1) (by decide) (fun c6 => ?_) (fun c6 => ?_)
  · refine sg_iconst (pc := 13) (z := 0) (dc_X7_isNoRow_0.1.2.2.2) (by decide) ?_
    refine sg_zret (pc := 14) (dc_X7_isNoRow_0.2.1.1.1) rfl (by first | exact Or.inl rfl | exact Or.inr rfl | omega | assumption) (by first | exact Nat.le_of_ble_eq_true rfl | omega) (by first | exact Nat.le_of_ble_eq_true rfl | omega) ?_
    exact hQ _ (by (try simp only [fm_no, fn_betw] at *) <;> first | omega | ((repeat' split) <;> omega) | grind) (by first | exact Or.inl rfl | exact Or.inr rfl | omega | assumption)
  · refine sg_iconst (pc := 9) (z := 1) (dc_X7_isNoRow_0.1.2.1.2) (by decide) ?_
    refine sg_goto (pc := 10) (tgt := 14) (dc_X7_isNoRow_0.1.2.2.1) (by decide) ?_
    refine sg_zret (pc := 14) (dc_X7_isNoRow_0.2.1.1.1) rfl (by first | exact Or.inl rfl | exact Or.inr rfl | omega | assumption) (by first | exact Nat.le_of_ble_eq_true rfl | omega) (by first | exact Nat.le_of_ble_eq_true rfl | omega) ?_
    exact hQ _ (by (try simp only [fm_no, fn_betw] at *) <;> first | omega | ((repeat' split) <;> omega) | grind) (by first | exact Or.inl rfl | exact Or.inr rfl | omega | assumption)

set_option maxRecDepth 100000 in
theorem s_X7_isNoTrack {w : sg_W} {Q : sg_O → sg_H → Prop} {h : sg_H} (g : sg_G w) {d : Nat} (hd : 2 ≤ d) {x : Int} (hQ : ∀ z, z = fm_no x 1 → (z = 0 ∨ z = 1) → Q (.inl (some (sg_i z))) h) : sg_C w mi_X7_isNoTrack d 0 0 [sg_i x] h Q := by
  refine sg_of pn_X7 (Nat.le_of_ble_eq_true rfl) ?_
  refine sg_iload_n (pc := 0) (j := 0) (dc_X7_isNoTrack_0.1.1.1.1) rfl rfl ?_
  refine sg_iconst (pc := 1) (z := 0) (dc_X7_isNoTrack_0.1.1.1.2) (by decide) ?_
  refine sg_iconst (pc := 2) (z := 1) (dc_X7_isNoTrack_0.1.1.2.1) (by decide) ?_
  refine sg_cS3 (pc := 3) (d' := d - 1) (mc' := 0) (ms' := 0) g (dc_X7_isNoTrack_0.1.1.2.2) cb_X7_isOf ml_X7_22 ms_X7_isOf (Nat.le_of_ble_eq_true rfl) (by first | exact jl_d0 hd rfl | omega) (by first | exact Nat.le_of_ble_eq_true rfl | omega) (by first | exact Nat.le_of_ble_eq_true rfl | omega) ?_
  refine s_X7_isOf g (by first | exact jl_d1 hd rfl | omega) (fun z3 h3 b3 => sg_K1 ?_)
  (try simp only [fm_no, fn_betw] at h3)
  refine sg_if_ne (pc := 6) (tgt := 13) (dc_X7_isNoTrack_0.1.2.1.1) (by decide) (fun c6 => ?_) (fun c6 => ?_)
  · refine sg_iconst (pc := 13) (z := 0) (dc_X7_isNoTrack_0.1.2.2.2) (by decide) ?_
    refine sg_zret (pc := 14) (dc_X7_isNoTrack_0.2.1.1.1) rfl (by first | exact Or.inl rfl | exact Or.inr rfl | omega | assumption) (by first | exact Nat.le_of_ble_eq_true rfl | omega) (by first | exact Nat.le_of_ble_eq_true rfl | omega) ?_
    exact hQ _ (by (try simp only [fm_no, fn_betw] at *) <;> first | omega | ((repeat' split) <;> omega) | grind) (by first | exact Or.inl rfl | exact Or.inr rfl | omega | assumption)
  · refine sg_iconst (pc := 9) (z := 1) (dc_X7_isNoTrack_0.1.2.1.2) (by decide) ?_
    refine sg_goto (pc := 10) (tgt := 14) (dc_X7_isNoTrack_0.1.2.2.1) (by decide) ?_
    refine sg_zret (pc := 14) (dc_X7_isNoTrack_0.2.1.1.1) rfl (by first | exact Or.inl rfl | exact Or.inr rfl | omega | assumption) (by first | exact Nat.le_of_ble_eq_true rfl | omega) (by first | exact Nat.le_of_ble_eq_true rfl | omega) ?_
    exact hQ _ (by (try simp only [fm_no, fn_betw] at *) <;> first | omega | ((repeat' split) <;> omega) | grind) (by first | exact Or.inl rfl | exact Or.inr rfl | omega | assumption)

set_option maxRecDepth 100000 in
theorem s_X7_isNoKind {w : sg_W} {Q : sg_O → sg_H → Prop} {h : sg_H} (g : sg_G w) {d : Nat} (hd : 2 ≤ d) {x : Int} (hQ : ∀ z, z = fm_no x 4 → (z = 0 ∨ z = 1) → Q (.inl (some (sg_i z))) h) : sg_C w mi_X7_isNoKind d 0 0 [sg_i x] h Q := by
  refine sg_of pn_X7 (Nat.le_of_ble_eq_true rfl) ?_
  refine sg_iload_n (pc := 0) (j := 0) (dc_X7_isNoKind_0.1.1.1.1) rfl rfl ?_
  refine sg_iconst (pc := 1) (z := 0) (dc_X7_isNoKind_0.1.1.1.2) (by decide) ?_
  refine sg_iconst (pc := 2) (z := 4) (dc_X7_isNoKind_0.1.1.2.1) (by decide) ?_
  refine sg_cS3 (pc := 3) (d' := d - 1) (mc' := 0) (ms' := 0) g (dc_X7_isNoKind_0.1.1.2.2) cb_X7_isOf ml_X7_22 ms_X7_isOf (Nat.le_of_ble_eq_true rfl) (by first | exact jl_d0 hd rfl | omega) (by first | exact Nat.le_of_ble_eq_true rfl | omega) (by first | exact Nat.le_of_ble_eq_true rfl | omega) ?_
  refine s_X7_isOf g (by first | exact jl_d1 hd rfl | omega) (fun z3 h3 b3 => sg_K1 ?_)
  (try simp only [fm_no, fn_betw] at h3)
  refine sg_if_ne (pc := 6) (tgt := 13) (dc_X7_isNoKind_0.1.2.1.1) (by decide) (fun c6 => ?_) (fun c6 => ?_)
  · refine sg_iconst (pc := 13) (z := 0) (dc_X7_isNoKind_0.1.2.2.2) (by decide) ?_
    refine sg_zret (pc := 14) (dc_X7_isNoKind_0.2.1.1.1) rfl (by first | exact Or.inl rfl | exact Or.inr rfl | omega | assumption) (by first | exact Nat.le_of_ble_eq_true rfl | omega) (by first | exact Nat.le_of_ble_eq_true rfl | omega) ?_
    exact hQ _ (by (try simp only [fm_no, fn_betw] at *) <;> first | omega | ((repeat' split) <;> omega) | grind) (by first | exact Or.inl rfl | exact Or.inr rfl | omega | assumption)
  · refine sg_iconst (pc := 9) (z := 1) (dc_X7_isNoKind_0.1.2.1.2) (by decide) ?_
    refine sg_goto (pc := 10) (tgt := 14) (dc_X7_isNoKind_0.1.2.2.1) (by decide) ?_
    refine sg_zret (pc := 14) (dc_X7_isNoKind_0.2.1.1.1) rfl (by first | exact Or.inl rfl | exact Or.inr rfl | omega | assumption) (by first | exact Nat.le_of_ble_eq_true rfl | omega) (by first | exact Nat.le_of_ble_eq_true rfl | omega) ?_
    exact hQ _ (by (try simp only [fm_no, fn_betw] at *) <;> first | omega | ((repeat' split) <;> omega) | grind) (by first | exact Or.inl rfl | exact Or.inr rfl | omega | assumption)

set_option maxRecDepth 100000 in
theorem s_X7_isHigh {w : sg_W} {Q : sg_O → sg_H → Prop} {h : sg_H} (g : sg_G w) {d : Nat} (hd : 2 ≤ d) {x : Int} (hQ : ∀ z, z = fn_high x → (z = 0 ∨ z = 1) → Q (.inl (some (sg_i z))) h) : sg_C w mi_X7_isHigh d 0 0 [sg_i x] h Q := by
  refine sg_of pn_X7 (Nat.le_of_ble_eq_true rfl) ?_
  refine sg_iload_n (pc := 0) (j := 0) (dc_X7_isHigh_0.1.1.1) rfl rfl ?_
  refine sg_ldc (pc := 1) (z := 55296) g (dc_X7_isHigh_0.1.1.2) cn_X7_118 (by decide) ?_
  refine sg_ldc (pc := 3) (z := 56319) g (dc_X7_isHigh_0.1.2.1) cn_X7_119 (by decide) ?_
  refine sg_cS3 (pc := 5) (d' := d - 1) (mc' := 0) (ms' := 0) g (dc_X7_isHigh_0.1.2.2) cb_X7_isOf ml_X7_22 ms_X7_isOf (Nat.le_of_ble_eq_true rfl) (by first | exact jl_d0 hd rfl | omega) (by first | exact Nat.le_of_ble_eq_true rfl | omega) (by first | exact Nat.le_of_ble_eq_true rfl | omega) ?_
  refine s_X7_isOf g (by first | exact jl_d1 hd rfl | omega) (fun z5 h5 b5 => sg_K1 ?_)
  (try simp only [fn_high, fn_betw] at h5)
  refine sg_zret (pc := 8) (dc_X7_isHigh_0.2.1.1) rfl (by first | exact Or.inl rfl | exact Or.inr rfl | omega | assumption) (by first | exact Nat.le_of_ble_eq_true rfl | omega) (by first | exact Nat.le_of_ble_eq_true rfl | omega) ?_
  exact hQ _ (by (try simp only [fn_high, fn_betw] at *) <;> first | omega | ((repeat' split) <;> omega) | grind) (by first | exact Or.inl rfl | exact Or.inr rfl | omega | assumption)

set_option maxRecDepth 100000 in
theorem s_X7_isLow {w : sg_W} {Q : sg_O → sg_H → Prop} {h : sg_H} (g : sg_G w) {d : Nat} (hd : 2 ≤ d) {x : Int} (hQ : ∀ z, z = fn_low x → (z = 0 ∨ z = 1) → Q (.inl (some (sg_i z))) h) : sg_C w mi_X7_isLow d 0 0 [sg_i x] h Q := by
  refine sg_of pn_X7 (Nat.le_of_ble_eq_true rfl) ?_
  refine sg_iload_n (pc := 0) (j := 0) (dc_X7_isLow_0.1.1.1) rfl rfl ?_
  refine sg_ldc (pc := 1) (z := 56320) g (dc_X7_isLow_0.1.1.2) cn_X7_120 (by decide) ?_
  refine sg_ldc (pc := 3) (z := 57343) g (dc_X7_isLow_0.1.2.1) cn_X7_121 (by decide) ?_
  refine sg_cS3 (pc := 5) (d' := d - 1) (mc' := 0) (ms' := 0) g (dc_X7_isLow_0.1.2.2) cb_X7_isOf ml_X7_22 ms_X7_isOf (Nat.le_of_ble_eq_true rfl) (by first | exact jl_d0 hd rfl | omega) (by first | exact Nat.le_of_ble_eq_true rfl | omega) (by first | exact Nat.le_of_ble_eq_true rfl | omega) ?_
  refine s_X7_isOf g (by first | exact jl_d1 hd rfl | omega) (fun z5 h5 b5 => sg_K1 ?_)
  (try simp only [fn_low, fn_betw] at h5)
  refine sg_zret (pc := 8) (dc_X7_isLow_0.2.1.1) rfl (by first | exact Or.inl rfl | exact Or.inr rfl | omega | assumption) (by first | exact Nat.le_of_ble_eq_true rfl | omega) (by first | exact Nat.le_of_ble_eq_true rfl | omega) ?_
  exact hQ _ (by (try simp only [fn_low, fn_betw] at *) <;> first | omega | ((repeat' split) <;> omega) | grind) (by first | exact Or.inl rfl | exact Or.inr rfl | omega | assumption)

set_option maxRecDepth 100000 in
theorem s_X7_isHalf {w : sg_W} {Q : sg_O → sg_H → Prop} {h : sg_H} (g : sg_G w) {d : Nat} (hd : 3 ≤ d) {x : Int} (hQ : ∀ z, z = fn_half x → (z = 0 ∨ z = 1) → Q (.inl (some (sg_i z))) h) : sg_C w mi_X7_isHalf d 0 0 [sg_i x] h Q := by
  refine sg_of pn_X7 (Nat.le_of_ble_eq_true rfl) ?_
  refine sg_iload_n (pc := 0) (j := 0) (dc_X7_isHalf_0.1.1.1.1) rfl rfl ?_
  refine sg_cS1 (pc := 1) (d' := d - 1) (mc' := 0) (ms' := 0) g (dc_X7_isHalf_0.1.1.1.2) cb_X7_isHigh ml_X7_122 ms_X7_isHigh (Nat.le_of_ble_eq_true rfl) (by first | exact jl_d0 hd rfl | omega) (by first | exact Nat.le_of_ble_eq_true rfl | omega) (by first | exact Nat.le_of_ble_eq_true rfl | omega) ?_
  refine s_X7_isHigh g (by first | exact jl_d1 hd rfl | omega) (fun z1 h1 b1 => sg_K1 ?_)
  (try simp only [fn_half, fn_high, fn_low] at h1)
  refine sg_if_ne (pc := 4) (tgt := 14) (dc_X7_isHalf_0.1.1.2.1) (by decide) (fun c4 => ?_) (fun c4 => ?_)
  · refine sg_iconst (pc := 14) (z := 1) (dc_X7_isHalf_0.1.2.2.1) (by decide) ?_
    refine sg_goto (pc := 15) (tgt := 19) (dc_X7_isHalf_0.1.2.2.2) (by decide) ?_
    refine sg_zret (pc := 19) (dc_X7_isHalf_0.2.1.1.2) rfl (by first | exact Or.inl rfl | exact Or.inr rfl | omega | assumption) (by first | exact Nat.le_of_ble_eq_true rfl | omega) (by first | exact Nat.le_of_ble_eq_true rfl | omega) ?_
    exact hQ _ (by (try simp only [fn_half, fn_high, fn_low] at *) <;> first | omega | ((repeat' split) <;> omega) | grind) (by first | exact Or.inl rfl | exact Or.inr rfl | omega | assumption)
  · refine sg_iload_n (pc := 7) (j := 0) (dc_X7_isHalf_0.1.1.2.2) rfl rfl ?_
    refine sg_cS1 (pc := 8) (d' := d - 1) (mc' := 0) (ms' := 0) g (dc_X7_isHalf_0.1.2.1.1) cb_X7_isLow ml_X7_125 ms_X7_isLow (Nat.le_of_ble_eq_true rfl) (by first | exact jl_d0 hd rfl | omega) (by first | exact Nat.le_of_ble_eq_true rfl | omega) (by first | exact Nat.le_of_ble_eq_true rfl | omega) ?_
    refine s_X7_isLow g (by first | exact jl_d1 hd rfl | omega) (fun z8 h8 b8 => sg_K1 ?_)
    (try simp only [fn_half, fn_high, fn_low] at h8)
    refine sg_if_eq (pc := 11) (tgt := 18) (dc_X7_isHalf_0.1.2.1.2) (by decide) (fun c11 => ?_) (fun c11 => ?_)
    · refine sg_iconst (pc := 18) (z := 0) (dc_X7_isHalf_0.2.1.1.1) (by decide) ?_
      refine sg_zret (pc := 19) (dc_X7_isHalf_0.2.1.1.2) rfl (by first | exact Or.inl rfl | exact Or.inr rfl | omega | assumption) (by first | exact Nat.le_of_ble_eq_true rfl | omega) (by first | exact Nat.le_of_ble_eq_true rfl | omega) ?_
      exact hQ _ (by (try simp only [fn_half, fn_high, fn_low] at *) <;> first | omega | ((repeat' split) <;> omega) | grind) (by first | exact Or.inl rfl | exact Or.inr rfl | omega | assumption)
    · refine sg_iconst (pc := 14) (z := 1) (dc_X7_isHalf_0.1.2.2.1) (by decide) ?_
      refine sg_goto (pc := 15) (tgt := 19) (dc_X7_isHalf_0.1.2.2.2) (by decide) ?_
      refine sg_zret (pc := 19) (dc_X7_isHalf_0.2.1.1.2) rfl (by first | exact Or.inl rfl | exact Or.inr rfl | omega | assumption) (by first | exact Nat.le_of_ble_eq_true rfl | omega) (by first | exact Nat.le_of_ble_eq_true rfl | omega) ?_
      exact hQ _ (by (try simp only [fn_half, fn_high, fn_low] at *) <;> first | omega | ((repeat' split) <;> omega) | grind) (by first | exact Or.inl rfl | exact Or.inr rfl | omega | assumption)

set_option maxRecDepth 100000 in
theorem s_X7_both {w : sg_W} {Q : sg_O → sg_H → Prop} {h : sg_H} (g : sg_G w) {d : Nat} (hd : 1 ≤ d) {a b : Int} (hQ : ∀ z : Int, (55296 ≤ a ∧ a < 56320 → 56320 ≤ b ∧ b < 57344 → z = 65536 + (a - 55296) * 1024 + (b - 56320)) → Q (.inl (some (sg_i z))) h) : sg_C w mi_X7_both d 0 0 [sg_i a, sg_i b] h Q := by
  refine sg_of pn_X7 (Nat.le_of_ble_eq_true rfl) ?_
  refine sg_ldc (pc := 0) (z := 65536) g (dc_X7_both_0.1.1.1.1) cn_X7_128 (by decide) ?_
  refine sg_sipush (pc := 2) (z := 1024) (dc_X7_both_0.1.1.1.2) (by decide) ?_
  refine sg_iload_n (pc := 5) (j := 0) (dc_X7_both_0.1.1.2.1) rfl rfl ?_
  refine sg_ldc (pc := 6) (z := 55296) g (dc_X7_both_0.1.1.2.2) cn_X7_118 (by decide) ?_
  first | refine sg_isubB (pc := 8) (dc_X7_both_0.1.2.1.1) (by omega) (by omega) ?_ | refine sg_isub (pc := 8) (dc_X7_both_0.1.2.1.1) ?_
  first | refine sg_imulB (pc := 9) (dc_X7_both_0.1.2.1.2) (by omega) (by omega) ?_ | refine sg_imul (pc := 9) (dc_X7_both_0.1.2.1.2) ?_
  first | refine sg_iaddB (pc := 10) (dc_X7_both_0.1.2.2.1) (by omega) (by omega) ?_ | refine sg_iadd (pc := 10) (dc_X7_both_0.1.2.2.1) ?_
  refine sg_iload_n (pc := 11) (j := 1) (dc_X7_both_0.1.2.2.2) rfl rfl ?_
  first | refine sg_iaddB (pc := 12) (dc_X7_both_0.2.1.1.1) (by omega) (by omega) ?_ | refine sg_iadd (pc := 12) (dc_X7_both_0.2.1.1.1) ?_
  refine sg_ldc (pc := 13) (z := 56320) g (dc_X7_both_0.2.1.1.2) cn_X7_120 (by decide) ?_
  first | refine sg_isubB (pc := 15) (dc_X7_both_0.2.1.2.1) (by omega) (by omega) ?_ | refine sg_isub (pc := 15) (dc_X7_both_0.2.1.2.1) ?_
  refine sg_iret (pc := 16) (dc_X7_both_0.2.1.2.2) rfl (by first | exact Nat.le_of_ble_eq_true rfl | omega) (by first | exact Nat.le_of_ble_eq_true rfl | omega) ?_
  exact hQ _ (fun r r2 => by first | rfl | omega | (simp (disch := omega) only [sg_w_id] <;> omega))

set_option maxRecDepth 100000 in
theorem s_X7_turnedUnit {w : sg_W} {Q : sg_O → sg_H → Prop} {h : sg_H} (g : sg_G w) {d : Nat} (hd : 1 ≤ d) {u : Int} (hQ : ∀ z : Int, (0 ≤ u ∧ u < 65536 → z = u % 256 * 256 + u / 256) → Q (.inl (some (sg_i z))) h) : sg_C w mi_X7_turnedUnit d 0 0 [sg_i u] h Q := by
  refine sg_of pn_X7 (Nat.le_of_ble_eq_true rfl) ?_
  refine sg_iload_n (pc := 0) (j := 0) (dc_X7_turnedUnit_0.1.1.1.1) rfl rfl ?_
  refine sg_sipush (pc := 1) (z := 256) (dc_X7_turnedUnit_0.1.1.1.2) (by decide) ?_
  first | refine sg_iremP (pc := 4) (dc_X7_turnedUnit_0.1.1.2.1) (by omega) (by omega) ?_ | refine sg_irem (pc := 4) (dc_X7_turnedUnit_0.1.1.2.1) (by first | omega | assumption) ?_
  refine sg_sipush (pc := 5) (z := 256) (dc_X7_turnedUnit_0.1.1.2.2) (by decide) ?_
  first | refine sg_imulB (pc := 8) (dc_X7_turnedUnit_0.1.2.1.1) (by omega) (by omega) ?_ | refine sg_imul (pc := 8) (dc_X7_turnedUnit_0.1.2.1.1) ?_
  refine sg_iload_n (pc := 9) (j := 0) (dc_X7_turnedUnit_0.1.2.1.2) rfl rfl ?_
  refine sg_sipush (pc := 10) (z := 256) (dc_X7_turnedUnit_0.1.2.2.1) (by decide) ?_
  first | refine sg_idivP (pc := 13) (dc_X7_turnedUnit_0.1.2.2.2) (by omega) (by omega) (by omega) ?_ | refine sg_idiv (pc := 13) (dc_X7_turnedUnit_0.1.2.2.2) (by first | omega | assumption) ?_
  first | refine sg_iaddB (pc := 14) (dc_X7_turnedUnit_0.2.1.1.1) (by omega) (by omega) ?_ | refine sg_iadd (pc := 14) (dc_X7_turnedUnit_0.2.1.1.1) ?_
  refine sg_iret (pc := 15) (dc_X7_turnedUnit_0.2.1.1.2) rfl (by first | exact Nat.le_of_ble_eq_true rfl | omega) (by first | exact Nat.le_of_ble_eq_true rfl | omega) ?_
  exact hQ _ (fun r => by first | rfl | omega | (simp (disch := omega) only [sg_w_id, Int.tdiv_eq_ediv_of_nonneg, Int.tmod_eq_emod_of_nonneg] <;> omega))

