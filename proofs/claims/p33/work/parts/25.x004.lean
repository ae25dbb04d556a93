set_option maxRecDepth 100000 in
theorem s_X2_isSoundSign {w : sg_W} {Q : sg_O → sg_H → Prop} {h : sg_H} (g : sg_G w) {d : Nat} (hd : 4 ≤ d) {x : Int} (hQ : ∀ z : Int, (z = 0 ∨ z = 1) → Q (.inl (some (sg_i z))) h) : sg_C w mi_X2_isSoundSign d 0 0 [sg_i x] h Q := by
  refine sg_of pn_X2 (Nat.le_of_ble_eq_true rfl) ?_
  refine sg_iload_n (pc := 0) (j := 0) (dc_X2_isSoundSign_0.1.1.1.1) rfl rfl ?_
  refine sg_iconst (pc := 1) (z := 1) (dc_X2_isSoundSign_0.1.1.1.2) (by decide) ?_
  refine sg_cS2 (pc := 2) (d' := d - 1) (mc' := 0) (ms' := 0) g (dc_X2_isSoundSign_0.1.1.2.1) cb_X2_isOf ml_X2_25 ms_X2_isOf (Nat.le_of_ble_eq_true rfl) (by first | exact jl_d0 hd rfl | omega) (by first | exact Nat.le_of_ble_eq_true rfl | omega) (by first | exact Nat.le_of_ble_eq_true rfl | omega) ?_
  refine s_X2_isOf g (by first | exact jl_d1 hd rfl | omega) (fun z2 h2 b2 => sg_K1 ?_)
  refine sg_if_ne (pc := 5) (tgt := 16) (dc_X2_isSoundSign_0.1.1.2.2) (by decide) (fun c5 => ?_) (fun c5 => ?_)
  · refine sg_iconst (pc := 16) (z := 1) (dc_X2_isSoundSign_0.2.1.1.1) (by decide) ?_
    refine sg_goto (pc := 17) (tgt := 21) (dc_X2_isSoundSign_0.2.1.1.2) (by decide) ?_
    refine sg_istore_n (pc := 21) (j := 1) (dc_X2_isSoundSign_0.2.1.2.2) rfl (by decide) ?_
    refine sg_iload_n (pc := 22) (j := 0) (dc_X2_isSoundSign_0.2.2.1.1) rfl rfl ?_
    refine sg_iconst (pc := 23) (z := 2) (dc_X2_isSoundSign_0.2.2.1.2) (by decide) ?_
    refine sg_cS2 (pc := 24) (d' := d - 1) (mc' := 0) (ms' := 0) g (dc_X2_isSoundSign_0.2.2.2.1) cb_X2_isOf ml_X2_25 ms_X2_isOf (Nat.le_of_ble_eq_true rfl) (by first | exact jl_d0 hd rfl | omega) (by first | exact Nat.le_of_ble_eq_true rfl | omega) (by first | exact Nat.le_of_ble_eq_true rfl | omega) ?_
    refine s_X2_isOf g (by first | exact jl_d1 hd rfl | omega) (fun z24 h24 b24 => sg_K1 ?_)
    refine sg_iload_n (pc := 27) (j := 1) (dc_X2_isSoundSign_0.2.2.2.2) rfl rfl ?_
    refine sg_icmp_eq (pc := 28) (tgt := 33) (dc_X2_isSoundSign_28.1.1.1.1) (by decide) (fun c28 => ?_) (fun c28 => ?_)
    · refine sg_iload_n (pc := 33) (j := 0) (dc_X2_isSoundSign_28.1.1.2.2) rfl rfl ?_
      refine sg_cS1 (pc := 34) (d' := d - 1) (mc' := 0) (ms' := 0) g (dc_X2_isSoundSign_28.1.2.1.1) cb_X2_lowerOf ml_X2_47 ms_X2_lowerOf (Nat.le_of_ble_eq_true rfl) (by first | exact jl_d0 hd rfl | omega) (by first | exact Nat.le_of_ble_eq_true rfl | omega) (by first | exact Nat.le_of_ble_eq_true rfl | omega) ?_
      refine s_X2_lowerOf g (by first | exact jl_d1 hd rfl | omega) (fun z34 h34 => sg_K1 ?_)
      refine sg_istore_n (pc := 37) (j := 2) (dc_X2_isSoundSign_28.1.2.1.2) rfl (by decide) ?_
      refine sg_iload_n (pc := 38) (j := 0) (dc_X2_isSoundSign_28.1.2.2.1) rfl rfl ?_
      refine sg_iconst (pc := 39) (z := 4) (dc_X2_isSoundSign_28.1.2.2.2) (by decide) ?_
      refine sg_cS2 (pc := 40) (d' := d - 1) (mc' := 0) (ms' := 0) g (dc_X2_isSoundSign_28.2.1.1.1) cb_X2_isOf ml_X2_25 ms_X2_isOf (Nat.le_of_ble_eq_true rfl) (by first | exact jl_d0 hd rfl | omega) (by first | exact Nat.le_of_ble_eq_true rfl | omega) (by first | exact Nat.le_of_ble_eq_true rfl | omega) ?_
      refine s_X2_isOf g (by first | exact jl_d1 hd rfl | omega) (fun z40 h40 b40 => sg_K1 ?_)
      refine sg_if_eq (pc := 43) (tgt := 61) (dc_X2_isSoundSign_28.2.1.1.2) (by decide) (fun c43 => ?_) (fun c43 => ?_)
      · refine sg_iload_n (pc := 61) (j := 0) (dc_X2_isSoundSign_56.1.1.2.2) rfl rfl ?_
        refine sg_bipush (pc := 62) (z := 36) (dc_X2_isSoundSign_56.1.2.1.1) (by decide) ?_
        refine sg_cS2 (pc := 64) (d' := d - 1) (mc' := 0) (ms' := 0) g (dc_X2_isSoundSign_56.1.2.1.2) cb_X2_numberOf ml_X2_53 ms_X2_numberOf (Nat.le_of_ble_eq_true rfl) (by first | exact jl_d0 hd rfl | omega) (by first | exact Nat.le_of_ble_eq_true rfl | omega) (by first | exact Nat.le_of_ble_eq_true rfl | omega) ?_
        refine s_X2_numberOf g (by first | exact jl_d1 hd rfl | omega) (fun z64 h64 => sg_K1 ?_)
        refine sg_istore_n (pc := 67) (j := 3) (dc_X2_isSoundSign_56.1.2.2.1) rfl (by decide) ?_
        refine sg_iload_n (pc := 68) (j := 3) (dc_X2_isSoundSign_56.1.2.2.2) rfl rfl ?_
        refine sg_iconst (pc := 69) (z := -1) (dc_X2_isSoundSign_56.2.1.1.1) (by decide) ?_
        refine sg_icmp_eq (pc := 70) (tgt := 89) (dc_X2_isSoundSign_56.2.1.1.2) (by decide) (fun c70 => ?_) (fun c70 => ?_)
        · refine sg_iconst (pc := 89) (z := 1) (dc_X2_isSoundSign_86.1.1.2) (by decide) ?_
          refine sg_goto (pc := 90) (tgt := 94) (dc_X2_isSoundSign_86.1.2.1) (by decide) ?_
          refine sg_zret (pc := 94) (dc_X2_isSoundSign_86.2.1.1) rfl (by first | exact Or.inl rfl | exact Or.inr rfl | omega | assumption) (by first | exact Nat.le_of_ble_eq_true rfl | omega) (by first | exact Nat.le_of_ble_eq_true rfl | omega) ?_
          exact hQ _ (by first | exact Or.inl rfl | exact Or.inr rfl | omega | assumption)
        · refine sg_iload_n (pc := 73) (j := 3) (dc_X2_isSoundSign_56.2.1.2.1) rfl rfl ?_
          refine sg_bipush (pc := 74) (z := 36) (dc_X2_isSoundSign_56.2.1.2.2) (by decide) ?_
          refine sg_cS2 (pc := 76) (d' := d - 1) (mc' := 0) (ms' := 0) g (dc_X2_isSoundSign_56.2.2.1.1) cb_X2_digitOf ml_X2_43 ms_X2_digitOf (Nat.le_of_ble_eq_true rfl) (by first | exact jl_d0 hd rfl | omega) (by first | exact Nat.le_of_ble_eq_true rfl | omega) (by first | exact Nat.le_of_ble_eq_true rfl | omega) ?_
          refine s_X2_digitOf g (by first | exact jl_d1 hd rfl | omega) (fun z76 h76 => sg_K1 ?_)
          refine sg_cS1 (pc := 79) (d' := d - 1) (mc' := 0) (ms' := 0) g (dc_X2_isSoundSign_56.2.2.1.2) cb_X2_upperOf ml_X2_50 ms_X2_upperOf (Nat.le_of_ble_eq_true rfl) (by first | exact jl_d0 hd rfl | omega) (by first | exact Nat.le_of_ble_eq_true rfl | omega) (by first | exact Nat.le_of_ble_eq_true rfl | omega) ?_
          refine s_X2_upperOf g (by first | exact jl_d1 hd rfl | omega) (fun z79 h79 => sg_K1 ?_)
          refine sg_iload_n (pc := 82) (j := 0) (dc_X2_isSoundSign_56.2.2.2.1) rfl rfl ?_
          refine sg_cS1 (pc := 83) (d' := d - 1) (mc' := 0) (ms' := 0) g (dc_X2_isSoundSign_56.2.2.2.2) cb_X2_upperOf ml_X2_50 ms_X2_upperOf (Nat.le_of_ble_eq_true rfl) (by first | exact jl_d0 hd rfl | omega) (by first | exact Nat.le_of_ble_eq_true rfl | omega) (by first | exact Nat.le_of_ble_eq_true rfl | omega) ?_
          refine s_X2_upperOf g (by first | exact jl_d1 hd rfl | omega) (fun z83 h83 => sg_K1 ?_)
          refine sg_icmp_ne (pc := 86) (tgt := 93) (dc_X2_isSoundSign_86.1.1.1) (by decide) (fun c86 => ?_) (fun c86 => ?_)
          · refine sg_iconst (pc := 93) (z := 0) (dc_X2_isSoundSign_86.1.2.2) (by decide) ?_
            refine sg_zret (pc := 94) (dc_X2_isSoundSign_86.2.1.1) rfl (by first | exact Or.inl rfl | exact Or.inr rfl | omega | assumption) (by first | exact Nat.le_of_ble_eq_true rfl | omega) (by first | exact Nat.le_of_ble_eq_true rfl | omega) ?_
            exact hQ _ (by first | exact Or.inl rfl | exact Or.inr rfl | omega | assumption)
          · refine sg_iconst (pc := 89) (z := 1) (dc_X2_isSoundSign_86.1.1.2) (by decide) ?_
            refine sg_goto (pc := 90) (tgt := 94) (dc_X2_isSoundSign_86.1.2.1) (by decide) ?_
            refine sg_zret (pc := 94) (dc_X2_isSoundSign_86.2.1.1) rfl (by first | exact Or.inl rfl | exact Or.inr rfl | omega | assumption) (by first | exact Nat.le_of_ble_eq_true rfl | omega) (by first | exact Nat.le_of_ble_eq_true rfl | omega) ?_
            exact hQ _ (by first | exact Or.inl rfl | exact Or.inr rfl | omega | assumption)
      · refine sg_iload_n (pc := 46) (j := 2) (dc_X2_isSoundSign_28.2.1.2.1) rfl rfl ?_
        refine sg_iload_n (pc := 47) (j := 0) (dc_X2_isSoundSign_28.2.1.2.2) rfl rfl ?_
        refine sg_icmp_eq (pc := 48) (tgt := 59) (dc_X2_isSoundSign_28.2.2.1.1) (by decide) (fun c48 => ?_) (fun c48 => ?_)
        · refine sg_iconst (pc := 59) (z := 0) (dc_X2_isSoundSign_56.1.1.1.2) (by decide) ?_
          refine sg_zret (pc := 60) (dc_X2_isSoundSign_56.1.1.2.1) rfl (by first | exact Or.inl rfl | exact Or.inr rfl | omega | assumption) (by first | exact Nat.le_of_ble_eq_true rfl | omega) (by first | exact Nat.le_of_ble_eq_true rfl | omega) ?_
          exact hQ _ (by first | exact Or.inl rfl | exact Or.inr rfl | omega | assumption)
        · refine sg_iload_n (pc := 51) (j := 2) (dc_X2_isSoundSign_28.2.2.1.2) rfl rfl ?_
          refine sg_cS1 (pc := 52) (d' := d - 1) (mc' := 0) (ms' := 0) g (dc_X2_isSoundSign_28.2.2.2.1) cb_X2_upperOf ml_X2_50 ms_X2_upperOf (Nat.le_of_ble_eq_true rfl) (by first | exact jl_d0 hd rfl | omega) (by first | exact Nat.le_of_ble_eq_true rfl | omega) (by first | exact Nat.le_of_ble_eq_true rfl | omega) ?_
          refine s_X2_upperOf g (by first | exact jl_d1 hd rfl | omega) (fun z52 h52 => sg_K1 ?_)
          refine sg_iload_n (pc := 55) (j := 0) (dc_X2_isSoundSign_28.2.2.2.2) rfl rfl ?_
          refine sg_icmp_eq (pc := 56) (tgt := 61) (dc_X2_isSoundSign_56.1.1.1.1) (by decide) (fun c56 => ?_) (fun c56 => ?_)
          · refine sg_iload_n (pc := 61) (j := 0) (dc_X2_isSoundSign_56.1.1.2.2) rfl rfl ?_
            refine sg_bipush (pc := 62) (z := 36) (dc_X2_isSoundSign_56.1.2.1.1) (by decide) ?_
            refine sg_cS2 (pc := 64) (d' := d - 1) (mc' := 0) (ms' := 0) g (dc_X2_isSoundSign_56.1.2.1.2) cb_X2_numberOf ml_X2_53 ms_X2_numberOf (Nat.le_of_ble_eq_true rfl) (by first | exact jl_d0 hd rfl | omega) (by first | exact Nat.le_of_ble_eq_true rfl | omega) (by first | exact Nat.le_of_ble_eq_true rfl | omega) ?_
            refine s_X2_numberOf g (by first | exact jl_d1 hd rfl | omega) (fun z64 h64 => sg_K1 ?_)
            refine sg_istore_n (pc := 67) (j := 3) (dc_X2_isSoundSign_56.1.2.2.1) rfl (by decide) ?_
            refine sg_iload_n (pc := 68) (j := 3) (dc_X2_isSoundSign_56.1.2.2.2) rfl rfl ?_
            refine sg_iconst (pc := 69) (z := -1) (dc_X2_isSoundSign_56.2.1.1.1) (by decide) ?_
            refine sg_icmp_eq (pc := 70) (tgt := 89) (dc_X2_isSoundSign_56.2.1.1.2) (by decide) (fun c70 => ?_) (fun c70 => ?_)
            · refine sg_iconst (pc := 89) (z := 1) (dc_X2_isSoundSign_86.1.1.2) (by decide) ?_
              refine sg_goto (pc := 90) (tgt := 94) (dc_X2_isSoundSign_86.1.2.1) (by decide) ?_
              refine sg_zret (pc := 94) (dc_X2_isSoundSign_86.2.1.1) rfl (by first | exact Or.inl rfl | exact Or.inr rfl | omega | assumption) (by first | exact Nat.le_of_ble_eq_true rfl | omega) (by first | exact Nat.le_of_ble_eq_true rfl | omega) ?_
              exact hQ _ (by first | exact Or.inl rfl | exact Or.inr rfl | omega | assumption)
            · refine sg_iload_n (pc := 73) (j := 3) (dc_X2_isSoundSign_56.2.1.2.1) rfl rfl ?_
              refine sg_bipush (pc := 74) (z := 36) (dc_X2_isSoundSign_56.2.1.2.2) (by decide) ?_
              refine sg_cS2 (pc := 76) (d' := d - 1) (mc' := 0) (ms' := 0) g (dc_X2_isSoundSign_56.2.2.1.1) cb_X2_digitOf ml_X2_43 ms_X2_digitOf (Nat.le_of_ble_eq_true rfl) (by first | exact jl_d0 hd rfl | omega) (by first | exact Nat.le_of_ble_eq_true rfl | omega) (by first | exact Nat.le_of_ble_eq_true rfl | omega) ?_
              refine s_X2_digitOf g (by first | exact jl_d1 hd rfl | omega) (fun z76 h76 => sg_K1 ?_)
              refine sg_cS1 (pc := 79) (d' := d - 1) (mc' := 0) (ms' := 0) g (dc_X2_isSoundSign_56.2.2.1.2) cb_X2_upperOf ml_X2_50 ms_X2_upperOf (Nat.le_of_ble_eq_true rfl) (by first | exact jl_d0 hd rfl | omega) (by first | exact Nat.le_of_ble_eq_true rfl | omega) (by first | exact Nat.le_of_ble_eq_true rfl | omega) ?_
              refine s_X2_upperOf g (by first | exact jl_d1 hd rfl | omega) (fun z79 h79 => sg_K1 ?_)
              refine sg_iload_n (pc := 82) (j := 0) (dc_X2_isSoundSign_56.2.2.2.1) rfl rfl ?_
              refine sg_cS1 (pc := 83) (d' := d - 1) (mc' := 0) (ms' := 0) g (dc_X2_isSoundSign_56.2.2.2.2) cb_X2_upperOf ml_X2_50 ms_X2_upperOf (Nat.le_of_ble_eq_true rfl) (by first | exact jl_d0 hd rfl | omega) (by first | exact Nat.le_of_ble_eq_true rfl | omega) (by first | exact Nat.le_of_ble_eq_true rfl | omega) ?_
              refine s_X2_upperOf g (by first | exact jl_d1 hd rfl | omega) (fun z83 h83 => sg_K1 ?_)
              refine sg_icmp_ne (pc := 86) (tgt := 93) (dc_X2_isSoundSign_86.1.1.1) (by decide) (fun c86 => ?_) (fun c86 => ?_)
              · refine sg_iconst (pc := 93) (z := 0) (dc_X2_isSoundSign_86.1.2.2) (by decide) ?_
                refine sg_zret (pc := 94) (dc_X2_isSoundSign_86.2.1.1) rfl (by first | exact Or.inl rfl | exact Or.inr rfl | omega | assumption) (by first | exact Nat.le_of_ble_eq_true rfl | omega) (by first | exact Nat.le_of_ble_eq_true rfl | omega) ?_
                exact hQ _ (by first | exact Or.inl rfl | exact Or.inr rfl | omega | assumption)
              · refine sg_iconst (pc := 89) (z := 1) (dc_X2_isSoundSign_86.1.1.2) (by decide) ?_
                refine sg_goto (pc := 90) (tgt := 94) (dc_X2_isSoundSign_86.1.2.1) (by decide) ?_
                refine sg_zret (pc := 94) (dc_X2_isSoundSign_86.2.1.1) rfl (by first | exact Or.inl rfl | exact Or.inr rfl | omega | assumption) (by first | exact Nat.le_of_ble_eq_true rfl | omega) (by first | exact Nat.le_of_ble_eq_true rfl | omega) ?_
                exact hQ _ (by first | exact Or.inl rfl | exact Or.inr rfl | omega | assumption)
          · refine sg_iconst (pc := 59) (z := 0) (dc_X2_isSoundSign_56.1.1.1.2) (by decide) ?_
            refine sg_zret (pc := 60) (dc_X2_isSoundSign_56.1.1.2.1) rfl (by first | exact Or.inl rfl | exact Or.inr rfl | omega | assumption) (by first | exact Nat.le_of_ble_eq_true rfl | omega) (by first | exact Nat.le_of_ble_eq_true rfl | omega) ?_
            exact hQ _ (by first | exact Or.inl rfl | exact Or.inr rfl | omega | assumption)
    · refine sg_iconst (pc := 31) (z := 0) (dc_X2_isSoundSign_28.1.1.1.2) (by decide) ?_
      refine sg_zret (pc := 32) (dc_X2_isSoundSign_28.1.1.2.1) rfl (by first | exact Or.inl rfl | exact Or.inr rfl | omega | assumption) (by first | exact Nat.le_of_ble_eq_true rfl | omega) (by first | exact Nat.le_of_ble_eq_true rfl | omega) ?_
      exact hQ _ (by first | exact Or.inl rfl | exact Or.inr rfl | omega | assumption)
  · refine sg_iload_n (pc := 8) (j := 0) (dc_X2_isSoundSign_0.1.2.1.1) rfl rfl ?_
    refine sg_iconst (pc := 9) (z := 0) (dc_X2_isSoundSign_0.1.2.1.2) (by decide) ?_
    refine sg_cS2 (pc := 10) (d' := d - 1) (mc' := 0) (ms' := 0) g (dc_X2_isSoundSign_0.1.2.2.1) cb_X2_isOf ml_X2_25 ms_X2_isOf (Nat.le_of_ble_eq_true rfl) (by first | exact jl_d0 hd rfl | omega) (by first | exact Nat.le_of_ble_eq_true rfl | omega) (by first | exact Nat.le_of_ble_eq_true rfl | omega) ?_
    refine s_X2_isOf g (by first | exact jl_d1 hd rfl | omega) (fun z10 h10 b10 => sg_K1 ?_)
    refine sg_if_eq (pc := 13) (tgt := 20) (dc_X2_isSoundSign_0.1.2.2.2) (by decide) (fun c13 => ?_) (fun c13 => ?_)
    · refine sg_iconst (pc := 20) (z := 0) (dc_X2_isSoundSign_0.2.1.2.1) (by decide) ?_
      refine sg_istore_n (pc := 21) (j := 1) (dc_X2_isSoundSign_0.2.1.2.2) rfl (by decide) ?_
      refine sg_iload_n (pc := 22) (j := 0) (dc_X2_isSoundSign_0.2.2.1.1) rfl rfl ?_
      refine sg_iconst (pc := 23) (z := 2) (dc_X2_isSoundSign_0.2.2.1.2) (by decide) ?_
      refine sg_cS2 (pc := 24) (d' := d - 1) (mc' := 0) (ms' := 0) g (dc_X2_isSoundSign_0.2.2.2.1) cb_X2_isOf ml_X2_25 ms_X2_isOf (Nat.le_of_ble_eq_true rfl) (by first | exact jl_d0 hd rfl | omega) (by first | exact Nat.le_of_ble_eq_true rfl | omega) (by first | exact Nat.le_of_ble_eq_true rfl | omega) ?_
      refine s_X2_isOf g (by first | exact jl_d1 hd rfl | omega) (fun z24 h24 b24 => sg_K1 ?_)
      refine sg_iload_n (pc := 27) (j := 1) (dc_X2_isSoundSign_0.2.2.2.2) rfl rfl ?_
      refine sg_icmp_eq (pc := 28) (tgt := 33) (dc_X2_isSoundSign_28.1.1.1.1) (by decide) (fun c28 => ?_) (fun c28 => ?_)
      · refine sg_iload_n (pc := 33) (j := 0) (dc_X2_isSoundSign_28.1.1.2.2) rfl rfl ?_
        refine sg_cS1 (pc := 34) (d' := d - 1) (mc' := 0) (ms' := 0) g (dc_X2_isSoundSign_28.1.2.1.1) cb_X2_lowerOf ml_X2_47 ms_X2_lowerOf (Nat.le_of_ble_eq_true rfl) (by first | exact jl_d0 hd rfl | omega) (by first | exact Nat.le_of_ble_eq_true rfl | omega) (by first | exact Nat.le_of_ble_eq_true rfl | omega) ?_
        refine s_X2_lowerOf g (by first | exact jl_d1 hd rfl | omega) (fun z34 h34 => sg_K1 ?_)
        refine sg_istore_n (pc := 37) (j := 2) (dc_X2_isSoundSign_28.1.2.1.2) rfl (by decide) ?_
        refine sg_iload_n (pc := 38) (j := 0) (dc_X2_isSoundSign_28.1.2.2.1) rfl rfl ?_
        refine sg_iconst (pc := 39) (z := 4) (dc_X2_isSoundSign_28.1.2.2.2) (by decide) ?_
        refine sg_cS2 (pc := 40) (d' := d - 1) (mc' := 0) (ms' := 0) g (dc_X2_isSoundSign_28.2.1.1.1) cb_X2_isOf ml_X2_25 ms_X2_isOf (Nat.le_of_ble_eq_true rfl) (by first | exact jl_d0 hd rfl | omega) (by first | exact Nat.le_of_ble_eq_true rfl | omega) (by first | exact Nat.le_of_ble_eq_true rfl | omega) ?_
        refine s_X2_isOf g (by first | exact jl_d1 hd rfl | omega) (fun z40 h40 b40 => sg_K1 ?_)
        refine sg_if_eq (pc := 43) (tgt := 61) (dc_X2_isSoundSign_28.2.1.1.2) (by decide) (fun c43 => ?_) (fun c43 => ?_)
        · refine sg_iload_n (pc := 61) (j := 0) (dc_X2_isSoundSign_56.1.1.2.2) rfl rfl ?_
          refine sg_bipush (pc := 62) (z := 36) (dc_X2_isSoundSign_56.1.2.1.1) (by decide) ?_
          refine sg_cS2 (pc := 64) (d' := d - 1) (mc' := 0) (ms' := 0) g (dc_X2_isSoundSign_56.1.2.1.2) cb_X2_numberOf ml_X2_53 ms_X2_numberOf (Nat.le_of_ble_eq_true rfl) (by first | exact jl_d0 hd rfl | omega) (by first | exact Nat.le_of_ble_eq_true rfl | omega) (by first | exact Nat.le_of_ble_eq_true rfl | omega) ?_
          refine s_X2_numberOf g (by first | exact jl_d1 hd rfl | omega) (fun z64 h64 => sg_K1 ?_)
          refine sg_istore_n (pc := 67) (j := 3) (dc_X2_isSoundSign_56.1.2.2.1) rfl (by decide) ?_
          refine sg_iload_n (pc := 68) (j := 3) (dc_X2_isSoundSign_56.1.2.2.2) rfl rfl ?_
          refine sg_iconst (pc := 69) (z := -1) (dc_X2_isSoundSign_56.2.1.1.1) (by decide) ?_
          refine sg_icmp_eq (pc := 70) (tgt := 89) (dc_X2_isSoundSign_56.2.1.1.2) (by decide) (fun c70 => ?_) (fun c70 => ?_)
          · refine sg_iconst (pc := 89) (z := 1) (dc_X2_isSoundSign_86.1.1.2) (by decide) ?_
            refine sg_goto (pc := 90) (tgt := 94) (dc_X2_isSoundSign_86.1.2.1) (by decide) ?_
            refine sg_zret (pc := 94) (dc_X2_isSoundSign_86.2.1.1) rfl (by first | exact Or.inl rfl | exact Or.inr rfl | omega | assumption) (by first | exact Nat.le_of_ble_eq_true rfl | omega) (by first | exact Nat.le_of_ble_eq_true rfl | omega) ?_
            exact hQ _ (by first | exact Or.inl rfl | exact Or.inr rfl | omega | assumption)
          · refine sg_iload_n (pc := 73) (j := 3) (dc_X2_isSoundSign_56.2.1.2.1) rfl rfl ?_
            refine sg_bipush (pc := 74) (z := 36) (dc_X2_isSoundSign_56.2.1.2.2) (by decide) ?_
            refine sg_cS2 (pc := 76) (d' := d - 1) (mc' := 0) (ms' := 0) g (dc_X2_isSoundSign_56.2.2.1.1) cb_X2_digitOf ml_X2_43 ms_X2_digitOf (Nat.le_of_ble_eq_true rfl) (by first | exact jl_d0 hd rfl | omega) (by first | exact Nat.le_of_ble_eq_true rfl | omega) (by first | exact Nat.le_of_ble_eq_true rfl | omega) ?_
            refine s_X2_digitOf g (by first | exact jl_d1 hd rfl | omega) (fun z76 h76 => sg_K1 ?_)
            refine sg_cS1 (pc := 79) (d' := d - 1) (mc' := 0) (ms' := 0) g (dc_X2_isSoundSign_56.2.2.1.2) cb_X2_upperOf ml_X2_50 ms_X2_upperOf (Nat.le_of_ble_eq_true rfl) (by first | exact jl_d0 hd rfl | omega) (by first | exact Nat.le_of_ble_eq_true rfl | omega) (by first | exact Nat.le_of_ble_eq_true rfl | omega) ?_
            refine s_X2_upperOf g (by first | exact jl_d1 hd rfl | omega) (fun z79 h79 => sg_K1 ?_)
            refine sg_iload_n (pc := 82) (j := 0) (dc_X2_isSoundSign_56.2.2.2.1) rfl rfl ?_
            refine sg_cS1 (pc := 83) (d' := d - 1) (mc' := 0) (ms' := 0) g (dc_X2_isSoundSign_56.2.2.2.2) cb_X2_upperOf ml_X2_50 ms_X2_upperOf (Nat.le_of_ble_eq_true rfl) (by first | exact jl_d0 hd rfl | omega) (by first | exact Nat.le_of_ble_eq_true rfl | omega) (by first | exact Nat.le_of_ble_eq_true rfl | omega) ?_
            refine s_X2_upperOf g (by first | exact jl_d1 hd rfl | omega) (fun z83 h83 => sg_K1 ?_)
            refine sg_icmp_ne (pc := 86) (tgt := 93) (dc_X2_isSoundSign_86.1.1.1) (by decide) (fun c86 => ?_) (fun c86 => ?_)
            · refine sg_iconst (pc := 93) (z := 0) (dc_X2_isSoundSign_86.1.2.2) (by decide) ?_
              refine sg_zret (pc := 94) (dc_X2_isSoundSign_86.2.1.1) rfl (by first | exact Or.inl rfl | exact Or.inr rfl | omega | assumption) (by first | exact Nat.le_of_ble_eq_true rfl | omega) (by first | exact Nat.le_of_ble_eq_true rfl | omega) ?_
              exact hQ _ (by first | exact Or.inl rfl | exact Or.inr rfl | omega | assumption)
            · refine sg_iconst (pc := 89) (z := 1) (dc_X2_isSoundSign_86.1.1.2) (by decide) ?_
              refine sg_goto (pc := 90) (tgt := 94) (dc_X2_isSoundSign_86.1.2.1) (by decide) ?_
              refine sg_zret (pc := 94) (dc_X2_isSoundSign_86.2.1.1) rfl (by first | exact Or.inl rfl | exact Or.inr rfl | omega | assumption) (by first | exact Nat.le_of_ble_eq_true rfl | omega) (by first | exact Nat.le_of_ble_eq_true rfl | omega) ?_
              exact hQ _ (by first | exact Or.inl rfl | exact Or.inr rfl | omega | assumption)
        · refine sg_iload_n (pc := 46) (j := 2) (dc_X2_isSoundSign_28.2.1.2.1) rfl rfl ?_
          refine sg_iload_n (pc := 47) (j := 0) (dc_X2_isSoundSign_28.2.1.2.2) rfl rfl ?_
          refine sg_icmp_eq (pc := 48) (tgt := 59) (dc_X2_isSoundSign_28.2.2.1.1) (by decide) (fun c48 => ?_) (fun c48 => ?_)
          · refine sg_iconst (pc := 59) (z := 0) (dc_X2_isSoundSign_56.1.1.1.2) (by decide) ?_
            refine sg_zret (pc := 60) (dc_X2_isSoundSign_56.1.1.2.1) rfl (by first | exact Or.inl rfl | exact Or.inr rfl | omega | assumption) (by first | exact Nat.le_of_ble_eq_true rfl | omega) (by first | exact Nat.le_of_ble_eq_true rfl | omega) ?_
            exact hQ _ (by first | exact Or.inl rfl | exact Or.inr rfl | omega | assumption)
          · refine sg_iload_n (pc := 51) (j := 2) (dc_X2_isSoundSign_28.2.2.1.2) rfl rfl ?_
            refine sg_cS1 (pc := 52) (d' := d - 1) (mc' := 0) (ms' := 0) g (dc_X2_isSoundSign_28.2.2.2.1) cb_X2_upperOf ml_X2_50 ms_X2_upperOf (Nat.le_of_ble_eq_true rfl) (by first | exact jl_d0 hd rfl | omega) (by first | exact Nat.le_of_ble_eq_true rfl | omega) (by first | exact Nat.le_of_ble_eq_true rfl | omega) ?_
            refine s_X2_upperOf g (by first | exact jl_d1 hd rfl | omega) (fun z52 h52 => sg_K1 ?_)
            refine sg_iload_n (pc := 55) (j := 0) (dc_X2_isSoundSign_28.2.2.2.2) rfl rfl ?_
            refine sg_icmp_eq (pc := 56) (tgt := 61) (dc_X2_isSoundSign_56.1.1.1.1) (by decide) (fun c56 => ?_) (fun c56 => ?_)
            · refine sg_iload_n (pc := 61) (j := 0) (dc_X2_isSoundSign_56.1.1.2.2) rfl rfl ?_
              refine sg_bipush (pc := 62) (z := 36) (dc_X2_isSoundSign_56.1.2.1.1) (by decide) ?_
              refine sg_cS2 (pc := 64) (d' := d - 1) (mc' := 0) (ms' := 0) g (dc_X2_isSoundSign_56.1.2.1.2) cb_X2_numberOf ml_X2_53 ms_X2_numberOf (Nat.le_of_ble_eq_true rfl) (by first | exact jl_d0 hd rfl | omega) (by first | exact Nat.le_of_ble_eq_true rfl | omega) (by first | exact Nat.le_of_ble_eq_true rfl | omega) ?_
              refine s_X2_numberOf g (by first | exact jl_d1 hd rfl | omega) (fun z64 h64 => sg_K1 ?_)
              refine sg_istore_n (pc := 67) (j := 3) (dc_X2_isSoundSign_56.1.2.2.1) rfl (by decide) ?_
              refine sg_iload_n (pc := 68) (j := 3) (dc_X2_isSoundSign_56.1.2.2.2) rfl rfl ?_
              refine sg_iconst (pc := 69) (z := -1) (dc_X2_isSoundSign_56.2.1.1.1) (by decide) ?_
              refine sg_icmp_eq (pc := 70) (tgt := 89) (dc_X2_isSoundSign_56.2.1.1.2) (by decide) (fun c70 => ?_) (fun c70 => ?_)
              · refine sg_iconst (pc := 89) (z := 1) (dc_X2_isSoundSign_86.1.1.2) (by decide) ?_
                refine sg_goto (pc := 90) (tgt := 94) (dc_X2_isSoundSign_86.1.2.1) (by decide) ?_
                refine sg_zret (pc := 94) (dc_X2_isSoundSign_86.2.1.1) rfl (by first | exact Or.inl rfl | exact Or.inr rfl | omega | assumption) (by first | exact Nat.le_of_ble_eq_true rfl | omega) (by first | exact Nat.le_of_ble_eq_true rfl | omega) ?_
                exact hQ _ (by first | exact Or.inl rfl | exact Or.inr rfl | omega | assumption)
              · refine sg_iload_n (pc := 73) (j := 3) (dc_X2_isSoundSign_56.2.1.2.1) rfl rfl ?_
                refine sg_bipush (pc := 74) (z := 36) (dc_X2_isSoundSign_56.2.1.2.2) (by decide) ?_
                refine sg_cS2 (pc := 76) (d' := d - 1) (mc' := 0) (ms' := 0) g (dc_X2_isSoundSign_56.2.2.1.1) cb_X2_digitOf ml_X2_43 ms_X2_digitOf (Nat.le_of_ble_eq_true rfl) (by first | exact jl_d0 hd rfl | omega) (by first | exact Nat.le_of_ble_eq_true rfl | omega) (by first | exact Nat.le_of_ble_eq_true rfl | omega) ?_
                refine s_X2_digitOf g (by first | exact jl_d1 hd rfl | omega) (fun z76 h76 => sg_K1 ?_)
                refine sg_cS1 (pc := 79) (d' := d - 1) (mc' := 0) (ms' := 0) g (dc_X2_isSoundSign_56.2.2.1.2) cb_X2_upperOf ml_X2_50 ms_X2_upperOf (Nat.le_of_ble_eq_true rfl) (by first | exact jl_d0 hd rfl | omega) (by first | exact Nat.le_of_ble_eq_true rfl | omega) (by first | exact Nat.le_of_ble_eq_true rfl | omega) ?_
                refine s_X2_upperOf g (by first | exact jl_d1 hd rfl | omega) (fun z79 h79 => sg_K1 ?_)
                refine sg_iload_n (pc := 82) (j := 0) (dc_X2_isSoundSign_56.2.2.2.1) rfl rfl ?_
                refine sg_cS1 (pc := 83) (d' := d - 1) (mc' := 0) (ms' := 0) g (dc_X2_isSoundSign_56.2.2.2.2) cb_X2_upperOf ml_X2_50 ms_X2_upperOf (Nat.le_of_ble_eq_true rfl) (by first | exact jl_d0 hd rfl | omega) (by first | exact Nat.le_of_ble_eq_true rfl | omega) (by first | exact Nat.le_of_ble_eq_true rfl | omega) ?_
                refine s_X2_upperOf g (by first | exact jl_d1 hd rfl | omega) (fun z83 h83 => sg_K1 ?_)
                refine sg_icmp_ne (pc := 86) (tgt := 93) (dc_X2_isSoundSign_86.1.1.1) (by decide) (fun c86 => ?_) (fun c86 => ?_)
                · refine sg_iconst (pc := 93) (z := 0) (dc_X2_isSoundSign_86.1.2.2) (by decide) ?_
                  refine sg_zret (pc := 94) (dc_X2_isSoundSign_86.2.1.1) rfl (by first | exact Or.inl rfl | exact Or.inr rfl | omega | assumption) (by first | exact Nat.le_of_ble_eq_true rfl | omega) (by first | exact Nat.le_of_ble_eq_true rfl | omega) ?_
                  exact hQ _ (by first | exact Or.inl rfl | exact Or.inr rfl | omega | assumption)
                · refine sg_iconst (pc := 89) (z := 1) (dc_X2_isSoundSign_86.1.1.2) (by decide) ?_
                  refine sg_goto (pc := 90) (tgt := 94) (dc_X2_isSoundSign_86.1.2.1) (by decide) ?_
                  refine sg_zret (pc := 94) (dc_X2_isSoundSign_86.2.1.1) rfl (by first | exact Or.inl rfl | exact Or.inr rfl | omega | assumption) (by first | exact Nat.le_of_ble_eq_true rfl | omega) (by first | exact Nat.le_of_ble_eq_true rfl | omega) ?_
                  exact hQ _ (by first | exact Or.inl rfl | exact Or.inr rfl | omega | assumption)
            · refine sg_iconst (pc := 59) (z := 0) (dc_X2_isSoundSign_56.1.1.1.2) (by decide) ?_
              refine sg_zret (pc := 60) (dc_X2_isSoundSign_56.1.1.2.1) rfl (by first | exact Or.inl rfl | exact Or.inr rfl | omega | assumption) (by first | exact Nat.le_of_ble_eq_true rfl | omega) (by first | exact Nat.le_of_ble_eq_true rfl | omega) ?_
              exact hQ _ (by first | exact Or.inl rfl | exact Or.inr rfl | omega | assumption)
      · refine sg_iconst (pc := 31) (z := 0) (dc_X2_isSoundSign_28.1.1.1.2) (by decide) ?_
        refine sg_zret (pc := 32) (dc_X2_isSoundSign_28.1.1.2.1) rfl (by first | exact Or.inl rfl | exact Or.inr rfl | omega | assumption) (by first | exact Nat.le_of_ble_eq_true rfl | omega) (by first | exact Nat.le_of_ble_eq_true rfl | omega) ?_
        exact hQ _ (by first | exact Or.inl rfl | exact Or.inr rfl | omega | assumption)
    · refine sg_iconst (pc := 16) (z := 1) (dc_X2_isSoundSign_0.2.1.1.1) (by decide) ?_
      refine sg_goto (pc := 17) (tgt := 21) (dc_X2_isSoundSign_0.2.1.1.2) (by decide) ?_
      refine sg_istore_n (pc := 21) (j := 1) (dc_X2_isSoundSign_0.2.1.2.2) rfl (by decide) ?_
      refine sg_iload_n (pc := 22) (j := 0) (dc_X2_isSoundSign_0.2.2.1.1) rfl rfl ?_
      refine sg_iconst (pc := 23) (z := 2) (dc_X2_isSoundSign_0.2.2.1.2) (by decide) ?_
      refine sg_cS2 (pc := 24) (d' := d - 1) (mc' := 0) (ms' := 0) g (dc_X2_isSoundSign_0.2.2.2.1) cb_X2_isOf ml_X2_25 ms_X2_isOf (Nat.le_of_ble_eq_true rfl) (by first | exact jl_d0 hd rfl | omega) (by first | exact Nat.le_of_ble_eq_true rfl | omega) (by first | exact Nat.le_of_ble_eq_true rfl | omega) ?_
      refine s_X2_isOf g (by first | exact jl_d1 hd rfl | omega) (fun z24 h24 b24 => sg_K1 ?_)
      refine sg_iload_n (pc := 27) (j := 1) (dc_X2_isSoundSign_0.2.2.2.2) rfl rfl ?_
      refine sg_icmp_eq (pc := 28) (tgt := 33) (dc_X2_isSoundSign_28.1.1.1.1) (by decide) (fun c28 => ?_) (fun c28 => ?_)
      · refine sg_iload_n (pc := 33) (j := 0) (dc_X2_isSoundSign_28.1.1.2.2) rfl rfl ?_
        refine sg_cS1 (pc := 34) (d' := d - 1) (mc' := 0) (ms' := 0) g (dc_X2_isSoundSign_28.1.2.1.1) cb_X2_lowerOf ml_X2_47 ms_X2_lowerOf (Nat.le_of_ble_eq_true rfl) (by first | exact jl_d0 hd rfl | omega) (by first | exact Nat.le_of_ble_eq_true rfl | omega) (by first | exact Nat.le_of_ble_eq_true rfl | omega) ?_
        refine s_X2_lowerOf g (by first | exact jl_d1 hd rfl | omega) (fun z34 h34 => sg_K1 ?_)
        refine sg_istore_n (pc := 37) (j := 2) (dc_X2_isSoundSign_28.1.2.1.2) rfl (by decide) ?_
        refine sg_iload_n (pc := 38) (j := 0) (dc_X2_isSoundSign_28.1.2.2.1) rfl rfl ?_
        refine sg_iconst (pc := 39) (z := 4) (dc_X2_isSoundSign_28.1.2.2.2) (by decide) ?_
        refine sg_cS2 (pc := 40) (d' := d - 1) (mc' := 0) (ms' := 0) g (dc_X2_isSoundSign_28.2.1.1.1) cb_X2_isOf ml_X2_25 ms_X2_isOf (Nat.le_of_ble_eq_true rfl) (by first | exact jl_d0 hd rfl | omega) (by first | exact Nat.le_of_ble_eq_true rfl | omega) (by first | exact Nat.le_of_ble_eq_true rfl | omega) ?_
        refine s_X2_isOf g (by first | exact jl_d1 hd rfl | omega) (fun z40 h40 b40 => sg_K1 ?_)
        refine sg_if_eq (pc := 43) (tgt := 61) (dc_X2_isSoundSign_28.2.1.1.2) (by decide) (fun c43 => ?_) (fun c43 => ?_)
        · refine sg_iload_n (pc := 61) (j := 0) (dc_X2_isSoundSign_56.1.1.2.2) rfl rfl ?_
          refine sg_bipush (pc := 62) (z := 36) (dc_X2_isSoundSign_56.1.2.1.1) (by decide) ?_
          refine sg_cS2 (pc := 64) (d' := d - 1) (mc' := 0) (ms' := 0) g (dc_X2_isSoundSign_56.1.2.1.2) cb_X2_numberOf ml_X2_53 ms_X2_numberOf (Nat.le_of_ble_eq_true rfl) (by first | exact jl_d0 hd rfl | omega) (by first | exact Nat.le_of_ble_eq_true rfl | omega) (by first | exact Nat.le_of_ble_eq_true rfl | omega) ?_
          refine s_X2_numberOf g (by first | exact jl_d1 hd rfl | omega) (fun z64 h64 => sg_K1 ?_)
          refine sg_istore_n (pc := 67) (j := 3) (dc_X2_isSoundSign_56.1.2.2.1) rfl (by decide) ?_
          refine sg_iload_n (pc := 68) (j := 3) (dc_X2_isSoundSign_56.1.2.2.2) rfl rfl ?_
          refine sg_iconst (pc := 69) (z := -1) (dc_X2_isSoundSign_56.2.1.1.1) (by decide) ?_
          refine sg_icmp_eq (pc := 70) (tgt := 89) (dc_X2_isSoundSign_56.2.1.1.2) (by decide) (fun c70 => ?_) (fun c70 => ?_)
          · refine sg_iconst (pc := 89) (z := 1) (dc_X2_isSoundSign_86.1.1.2) (by decide) ?_
            refine sg_goto (pc := 90) (tgt := 94) (dc_X2_isSoundSign_86.1.2.1) (by decide) ?_
            refine sg_zret (pc := 94) (dc_X2_isSoundSign_86.2.1.1) rfl (by first | exact Or.inl rfl | exact Or.inr rfl | omega | assumption) (by first | exact Nat.le_of_ble_eq_true rfl | omega) (by first | exact Nat.le_of_ble_eq_true rfl | omega) ?_
            exact hQ _ (by first | exact Or.inl rfl | exact Or.inr rfl | omega | assumption)
          · refine sg_iload_n (pc := 73) (j := 3) (dc_X2_isSoundSign_56.2.1.2.1) rfl rfl ?_
            refine sg_bipush (pc := 74) (z := 36) (dc_X2_isSoundSign_56.2.1.2.2) (by decide) ?_
            refine sg_cS2 (pc := 76) (d' := d - 1) (mc' := 0) (ms' := 0) g (dc_X2_isSoundSign_56.2.2.1.1) cb_X2_digitOf ml_X2_43 ms_X2_digitOf (Nat.le_of_ble_eq_true rfl) (by first | exact jl_d0 hd rfl | omega) (by first | exact Nat.le_of_ble_eq_true rfl | omega) (by first | exact Nat.le_of_ble_eq_true rfl | omega) ?_
            refine s_X2_digitOf g (by first | exact jl_d1 hd rfl | omega) (fun z76 h76 => sg_K1 ?_)
            refine sg_cS1 (pc := 79) (d' := d - 1) (mc' := 0) (ms' := 0) g (dc_X2_isSoundSign_56.2.2.1.2) cb_X2_upperOf ml_X2_50 ms_X2_upperOf (Nat.le_of_ble_eq_true rfl) (by first | exact jl_d0 hd rfl | omega) (by first | exact Nat.le_of_ble_eq_true rfl | omega) (by first | exact Nat.le_of_ble_eq_true rfl | omega) ?_
            refine s_X2_upperOf g (by first | exact jl_d1 hd rfl | omega) (fun z79 h79 => sg_K1 ?_)
            refine sg_iload_n (pc := 82) (j := 0) (dc_X2_isSoundSign_56.2.2.2.1) rfl rfl ?_
            refine sg_cS1 (pc := 83) (d' := d - 1) (mc' := 0) (ms' := 0) g (dc_X2_isSoundSign_56.2.2.2.2) cb_X2_upperOf ml_X2_50 ms_X2_upperOf (Nat.le_of_ble_eq_true rfl) (by first | exact jl_d0 hd rfl | omega) (by first | exact Nat.le_of_ble_eq_true rfl | omega) (by first | exact Nat.le_of_ble_eq_true rfl | omega) ?_
            refine s_X2_upperOf g (by first | exact jl_d1 hd rfl | omega) (fun z83 h83 => sg_K1 ?_)
            refine sg_icmp_ne (pc := 86) (tgt := 93) (dc_X2_isSoundSign_86.1.1.1) (by decide) (fun c86 => ?_) (fun c86 => ?_)
            · refine sg_iconst (pc := 93) (z := 0) (dc_X2_isSoundSign_86.1.2.2) (by decide) ?_
              refine sg_zret (pc := 94) (dc_X2_isSoundSign_86.2.1.1) rfl (by first | exact Or.inl rfl | exact Or.inr rfl | omega | assumption) (by first | exact Nat.le_of_ble_eq_true rfl | omega) (by first | exact Nat.le_of_ble_eq_true rfl | omega) ?_
              exact hQ _ (by first | exact Or.inl rfl | exact Or.inr rfl | omega | assumption)
            · refine sg_iconst (pc := 89) (z := 1) (dc_X2_isSoundSign_86.1.1.2) (by decide) ?_
              refine sg_goto (pc := 90) (tgt := 94) (dc_X2_isSoundSign_86.1.2.1) (by decide) ?_
              refine sg_zret (pc := 94) (dc_X2_isSoundSign_86.2.1.1) rfl (by first | exact Or.inl rfl | exact Or.inr rfl | omega | assumption) (by first | exact Nat.le_of_ble_eq_true rfl | omega) (by first | exact Nat.le_of_ble_eq_true rfl | omega) ?_
              exact hQ _ (by first | exact Or.inl rfl | exact Or.inr rfl | omega | assumption)
        · refine sg_iload_n (pc := 46) (j := 2) (dc_X2_isSoundSign_28.2.1.2.1) rfl rfl ?_
          refine sg_iload_n (pc := 47) (j := 0) (dc_X2_isSoundSign_28.2.1.2.2) rfl rfl ?_
          refine sg_icmp_eq (pc := 48) (tgt := 59) (dc_X2_isSoundSign_28.2.2.1.1) (by decide) (fun c48 => ?_) (fun c48 => ?_)
          · refine sg_iconst (pc := 59) (z := 0) (dc_X2_isSoundSign_56.1.1.1.2) (by decide) ?_
            refine sg_zret (pc := 60) (dc_X2_isSoundSign_56.1.1.2.1) rfl (by first | exact Or.inl rfl | exact Or.inr rfl | omega | assumption) (by first | exact Nat.le_of_ble_eq_true rfl | omega) (by first | exact Nat.le_of_ble_eq_true rfl | omega) ?_
            exact hQ _ (by first | exact Or.inl rfl | exact Or.inr rfl | omega | assumption)
          · refine sg_iload_n (pc := 51) (j := 2) (dc_X2_isSoundSign_28.2.2.1.2) rfl rfl ?_
            refine sg_cS1 (pc := 52) (d' := d - 1) (mc' := 0) (ms' := 0) g (dc_X2_isSoundSign_28.2.2.2.1) cb_X2_upperOf ml_X2_50 ms_X2_upperOf (Nat.le_of_ble_eq_true rfl) (by first | exact jl_d0 hd rfl | omega) (by first | exact Nat.le_of_ble_eq_true rfl | omega) (by first | exact Nat.le_of_ble_eq_true rfl | omega) ?_
            refine s_X2_upperOf g (by first | exact jl_d1 hd rfl | omega) (fun z52 h52 => sg_K1 ?_)
            refine sg_iload_n (pc := 55) (j := 0) (dc_X2_isSoundSign_28.2.2.2.2) rfl rfl ?_
            refine sg_icmp_eq (pc := 56) (tgt := 61) (dc_X2_isSoundSign_56.1.1.1.1) (by decide) (fun c56 => ?_) (fun c56 => ?_)
            · refine sg_iload_n (pc := 61) (j := 0) (dc_X2_isSoundSign_56.1.1.2.2) rfl rfl ?_
              refine sg_bipush (pc := 62) (z := 36) (dc_X2_isSoundSign_56.1.2.1.1) (by decide) ?_
              refine sg_cS2 (pc := 64) (d' := d - 1) (mc' := 0) (ms' := 0) g (dc_X2_isSoundSign_56.1.2.1.2) cb_X2_numberOf ml_X2_53 ms_X2_numberOf (Nat.le_of_ble_eq_true rfl) (by first | exact jl_d0 hd rfl | omega) (by first | exact Nat.le_of_ble_eq_true rfl | omega) (by first | exact Nat.le_of_ble_eq_true rfl | omega) ?_
              refine s_X2_numberOf g (by first | exact jl_d1 hd rfl | omega) (fun z64 h64 => sg_K1 ?_)
              refine sg_istore_n (pc := 67) (j := 3) (dc_X2_isSoundSign_56.1.2.2.1) rfl (by decide) ?_
              refine sg_iload_n (pc := 68) (j := 3) (dc_X2_isSoundSign_56.1.2.2.2) rfl rfl ?_
              refine sg_iconst (pc := 69) (z := -1) (dc_X2_isSoundSign_56.2.1.1.1) (by decide) ?_
              refine sg_icmp_eq (pc := 70) (tgt := 89) (dc_X2_isSoundSign_56.2.1.1.2) (by decide) (fun c70 => ?_) (fun c70 => ?_)
              · refine sg_iconst (pc := 89) (z := 1) (dc_X2_isSoundSign_86.1.1.2) (by decide) ?_
                refine sg_goto (pc := 90) (tgt := 94) (dc_X2_isSoundSign_86.1.2.1) (by decide) ?_
                refine sg_zret (pc := 94) (dc_X2_isSoundSign_86.2.1.1) rfl (by first | exact Or.inl rfl | exact Or.inr rfl | omega | assumption) (by first | exact Nat.le_of_ble_eq_true rfl | omega) (by first | exact Nat.le_of_ble_eq_true rfl | omega) ?_
                exact hQ _ (by first | exact Or.inl rfl | exact Or.inr rfl | omega | assumption)
              · refine sg_iload_n (pc := 73) (j := 3) (dc_X2_isSoundSign_56.2.1.2.1) rfl rfl ?_
                refine sg_bipush (pc := 74) (z := 36) (dc_X2_isSoundSign_56.2.1.2.2) (by decide) ?_
                refine sg_cS2 (pc := 76) (d' := d - 1) (mc' := 0) (ms' := 0) g (dc_X2_isSoundSign_56.2.2.1.1) cb_X2_digitOf ml_X2_43 ms_X2_digitOf (Nat.le_of_ble_eq_true rfl) (by first | exact jl_d0 hd rfl | omega) (by first | exact Nat.le_of_ble_eq_true rfl | omega) (by first | exact Nat.le_of_ble_eq_true rfl | omega) ?_
                refine s_X2_digitOf g (by first | exact jl_d1 hd rfl | omega) (fun z76 h76 => sg_K1 ?_)
                refine sg_cS1 (pc := 79) (d' := d - 1) (mc' := 0) (ms' := 0) g (dc_X2_isSoundSign_56.2.2.1.2) cb_X2_upperOf ml_X2_50 ms_X2_upperOf (Nat.le_of_ble_eq_true rfl) (by first | exact jl_d0 hd rfl | omega) (by first | exact Nat.le_of_ble_eq_true rfl | omega) (by first | exact Nat.le_of_ble_eq_true rfl | omega) ?_
                refine s_X2_upperOf g (by first | exact jl_d1 hd rfl | omega) (fun z79 h79 => sg_K1 ?_)
                refine sg_iload_n (pc := 82) (j := 0) (dc_X2_isSoundSign_56.2.2.2.1) rfl rfl ?_
                refine sg_cS1 (pc := 83) (d' := d - 1) (mc' := 0) (ms' := 0) g (dc_X2_isSoundSign_56.2.2.2.2) cb_X2_upperOf ml_X2_50 ms_X2_upperOf (Nat.le_of_ble_eq_true rfl) (by first | exact jl_d0 hd rfl | omega) (by first | exact Nat.le_of_ble_eq_true rfl | omega) (by first | exact Nat.le_of_ble_eq_true rfl | omega) ?_
                refine s_X2_upperOf g (by first | exact jl_d1 hd rfl | omega) (fun z83 h83 => sg_K1 ?_)
                refine sg_icmp_ne (pc := 86) (tgt := 93) (dc_X2_isSoundSign_86.1.1.1) (by decide) (fun c86 => ?_) (fun c86 => ?_)
                · refine sg_iconst (pc := 93) (z := 0) (dc_X2_isSoundSign_86.1.2.2) (by decide) ?_
                  refine sg_zret (pc := 94) (dc_X2_isSoundSign_86.2.1.1) rfl (by first | exact Or.inl rfl | exact Or.inr rfl | omega | assumption) (by first | exact Nat.le_of_ble_eq_true rfl | omega) (by first | exact Nat.le_of_ble_eq_true rfl | omega) ?_
                  exact hQ _ (by first | exact Or.inl rfl | exact Or.inr rfl | omega | assumption)
                · refine sg_iconst (pc := 89) (z := 1) (dc_X2_isSoundSign_86.1.1.2) (by decide) ?_
                  refine sg_goto (pc := 90) (tgt := 94) (dc_X2_isSoundSign_86.1.2.1) (by decide) ?_
                  refine sg_zret (pc := 94) (dc_X2_isSoundSign_86.2.1.1) rfl (by first | exact Or.inl rfl | exact Or.inr rfl | omega | assumption) (by first | exact Nat.le_of_ble_eq_true rfl | omega) (by first | exact Nat.le_of_ble_eq_true rfl | omega) ?_
                  exact hQ _ (by first | exact Or.inl rfl | exact Or.inr rfl | omega | assumption)
            · refine sg_iconst (pc := 59) (z := 0) (dc_X2_isSoundSign_56.1.1.1.2) (by decide) ?_
              refine sg_zret (pc := 60) (dc_X2_isSoundSign_56.1.1.2.1) rfl (by first | exact Or.inl rfl | exact Or.inr rfl | omega | assumption) (by first | exact Nat.le_of_ble_eq_true rfl | omega) (by first | exact Nat.le_of_ble_eq_true rfl | omega) ?_
              exact hQ _ (by first | exact Or.inl rfl | exact Or.inr rfl | omega | assumption)
      · refine sg_iconst (pc := 31) (z := 0) (dc_X2_isSoundSign_28.1.1.1.2) (by decide) ?_
        refine sg_zret (pc := 32) (dc_X2_isSoundSign_28.1.1.2.1) rfl (by first | exact Or.inl rfl | exact Or.inr rfl | omega | assumption) (by first | exact Nat.le_of_ble_eq_true rfl | omega) (by first | exact Nat.le_of_ble_eq_true rfl | omega) ?_
        exact hQ _ (by first | exact Or.inl rfl | exact Or.inr rfl | omega | assumption)

