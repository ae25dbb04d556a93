theorem fd_1 (x : Int) : fn_isOf x 2 = if fn_isOf x 1 = 1 ∨ fn_isOf x 0 = 1 then 1 else 0 := by simp [fn_isOf, fn_lod]
theorem fd_2 {x : Int} (h : fn_isOf x 4 = 1) : fn_lower x ≠ x ∧ fn_upper (fn_lower x) = x := by
  have g : fn_great x = 1 := by simpa [fn_isOf] using h
  have e : fn_lower x = x + 32 := by unfold fn_lower; rw [if_pos g]
  rw [e]
  unfold fn_great at g
  unfold fn_upper
  split at g
  · refine ⟨by omega, ?_⟩
    rw [if_pos (by omega)]
    omega
  · omega
theorem fd_3 (x : Int) : fn_num x 36 = -1 ∨ fn_upper (fn_digit (fn_num x 36) 36) = fn_upper x := by
  have r : fn_radix 36 = 1 := by decide
  have n0 : ∀ v : Int, fn_plain x = v → 0 ≤ v → v < 36 → fn_num x 36 = v := by
    intro v e v0 v1
    unfold fn_num
    rw [r, e]
    exact if_pos (And.intro rfl v1)
  have d0 : ∀ v : Int, 0 ≤ v → v < 36 → fn_digit v 36 = if v < 10 then v + 48 else v + 87 := by
    intro v v0 v1
    unfold fn_digit
    rw [r]
    exact if_pos (And.intro rfl (And.intro v0 v1))
  by_cases c1 : 48 ≤ x ∧ x ≤ 57
  · right
    rw [n0 (x - 48) (by unfold fn_plain; rw [if_pos c1]) (by omega) (by omega), d0 _ (by omega) (by omega), if_pos (by omega), show x - 48 + 48 = x by omega]
  · by_cases c2 : 65 ≤ x ∧ x ≤ 90
    · right
      rw [n0 (x - 55) (by unfold fn_plain; rw [if_neg c1, if_pos c2]) (by omega) (by omega), d0 _ (by omega) (by omega), if_neg (by omega), show x - 55 + 87 = x + 32 by omega]
      unfold fn_upper
      (repeat' split) <;> omega
    · by_cases c3 : 97 ≤ x ∧ x ≤ 122
      · right
        rw [n0 (x - 87) (by unfold fn_plain; rw [if_neg c1, if_neg c2, if_pos c3]) (by omega) (by omega), d0 _ (by omega) (by omega), if_neg (by omega), show x - 87 + 87 = x by omega]
      · left
        have e : fn_plain x = -1 := by unfold fn_plain; rw [if_neg c1, if_neg c2, if_neg c3]
        unfold fn_num
        rw [e]
        split <;> rfl

set_option maxRecDepth 100000 in
theorem f_X2_isSoundSign {w : sg_W} {Q : sg_O → sg_H → Prop} {h : sg_H} (g : sg_G w) {d : Nat} (hd : 4 ≤ d) {x : Int} (hQ : ∀ z : Int, z = 1 → Q (.inl (some (sg_i z))) h) : sg_C w mi_X2_isSoundSign d 0 0 [sg_i x] h Q := by
  refine sg_of pn_X2 (Nat.le_of_ble_eq_true rfl) ?_
  refine sg_iload_n (pc := 0) (j := 0) (dc_X2_isSoundSign_0.1.1.1.1) rfl rfl ?_
  refine sg_iconst (pc := 1) (z := 1) (dc_X2_isSoundSign_0.1.1.1.2) (by decide) ?_
  refine sg_cS2 (pc := 2) (d' := d - 1) (mc' := 0) (ms' := 0) g (dc_X2_isSoundSign_0.1.1.2.1) cb_X2_isOf ml_X2_25 ms_X2_isOf (Nat.le_of_ble_eq_true rfl) (by first | exact jl_d0 hd rfl | omega) (by first | exact Nat.le_of_ble_eq_true rfl | omega) (by first | exact Nat.le_of_ble_eq_true rfl | omega) ?_
  refine s_X2_isOf g (by first | exact jl_d1 hd rfl | omega) (fun z2 h2 b2 => sg_K1 ?_)
  refine sg_if_ne (pc := 5) (tgt := 16) (dc_X2_isSoundSign_0.1.1.2.2) (by decide) (fun c5 => ?_) (fun c5 => ?_)
  · refine sg_iconst (pc := 16) (z := 1) (dc_X2_isSoundSign_0.2.1.1.1) (by decide) ?_
    refine sg_goto (pc := 17) (tgt := 21) (dc_X2_isSoundSign_0.2.1.1.2) (by decide) ?_
    refine sg_istore_n (pc := 21) (j := 1) (dc_X2_isSoundSign_0.2.1.2.2) rfl (by decide) ?_
    refine sg_iload_n (pc := 22) (j := 0) (dc_X2_isSoundSign_0.2.2.1.1) rfl rfl ?_
    refine sg_iconst (pc := 23) (z := 2) (dc_X2_isSoundSign_0.2.2.1.2) (by decide) ?_
    refine sg_cS2 (pc := 24) (d' := d - 1) (mc' := 0) (ms' := 0) g (dc_X2_isSoundSign_0.2.2.2.1) cb_X2_isOf ml_X2_25 ms_X2_isOf (Nat.le_of_ble_eq_true rfl) (by first | exact jl_d0 hd rfl | omega) (by first | exact Nat.le_of_ble_eq_true rfl | omega) (by first | exact Nat.le_of_ble_eq_true rfl | omega) ?_
    refine s_X2_isOf g (by first | exact jl_d1 hd rfl | omega) (fun z24 h24 b24 => sg_K1 ?_)
    refine sg_iload_n (pc := 27) (j := 1) (dc_X2_isSoundSign_0.2.2.2.2) rfl rfl ?_
    refine sg_icmp_eq (pc := 28) (tgt := 33) (dc_X2_isSoundSign_28.1.1.1.1) (by decide) (fun c28 => ?_) (fun c28 => ?_)
    · refine sg_iload_n (pc := 33) (j := 0) (dc_X2_isSoundSign_28.1.1.2.2) rfl rfl ?_
      refine sg_cS1 (pc := 34) (d' := d - 1) (mc' := 0) (ms' := 0) g (dc_X2_isSoundSign_28.1.2.1.1) cb_X2_lowerOf ml_X2_47 ms_X2_lowerOf (Nat.le_of_ble_eq_true rfl) (by first | exact jl_d0 hd rfl | omega) (by first | exact Nat.le_of_ble_eq_true rfl | omega) (by first | exact Nat.le_of_ble_eq_true rfl | omega) ?_
      refine s_X2_lowerOf g (by first | exact jl_d1 hd rfl | omega) (fun z34 h34 => sg_K1 ?_)
      refine sg_istore_n (pc := 37) (j := 2) (dc_X2_isSoundSign_28.1.2.1.2) rfl (by decide) ?_
      refine sg_iload_n (pc := 38) (j := 0) (dc_X2_isSoundSign_28.1.2.2.1) rfl rfl ?_
      refine sg_iconst (pc := 39) (z := 4) (dc_X2_isSoundSign_28.1.2.2.2) (by decide) ?_
      refine sg_cS2 (pc := 40) (d' := d - 1) (mc' := 0) (ms' := 0) g (dc_X2_isSoundSign_28.2.1.1.1) cb_X2_isOf ml_X2_25 ms_X2_isOf (Nat.le_of_ble_eq_true rfl) (by first | exact jl_d0 hd rfl | omega) (by first | exact Nat.le_of_ble_eq_true rfl | omega) (by first | exact Nat.le_of_ble_eq_true rfl | omega) ?_
      refine s_X2_isOf g (by first | exact jl_d1 hd rfl | omega) (fun z40 h40 b40 => sg_K1 ?_)
      refine sg_if_eq (pc := 43) (tgt := 61) (dc_X2_isSoundSign_28.2.1.1.2) (by decide) (fun c43 => ?_) (fun c43 => ?_)
      · refine sg_iload_n (pc := 61) (j := 0) (dc_X2_isSoundSign_56.1.1.2.2) rfl rfl ?_
        refine sg_bipush (pc := 62) (z := 36) (dc_X2_isSoundSign_56.1.2.1.1) (by decide) ?_
        refine sg_cS2 (pc := 64) (d' := d - 1) (mc' := 0) (ms' := 0) g (dc_X2_isSoundSign_56.1.2.1.2) cb_X2_numberOf ml_X2_53 ms_X2_numberOf (Nat.le_of_ble_eq_true rfl) (by first | exact jl_d0 hd rfl | omega) (by first | exact Nat.le_of_ble_eq_true rfl | omega) (by first | exact Nat.le_of_ble_eq_true rfl | omega) ?_
        refine s_X2_numberOf g (by first | exact jl_d1 hd rfl | omega) (fun z64 h64 => sg_K1 ?_)
        refine sg_istore_n (pc := 67) (j := 3) (dc_X2_isSoundSign_56.1.2.2.1) rfl (by decide) ?_
        refine sg_iload_n (pc := 68) (j := 3) (dc_X2_isSoundSign_56.1.2.2.2) rfl rfl ?_
        refine sg_iconst (pc := 69) (z := -1) (dc_X2_isSoundSign_56.2.1.1.1) (by decide) ?_
        refine sg_icmp_eq (pc := 70) (tgt := 89) (dc_X2_isSoundSign_56.2.1.1.2) (by decide) (fun c70 => ?_) (fun c70 => ?_)
        · refine sg_iconst (pc := 89) (z := 1) (dc_X2_isSoundSign_86.1.1.2) (by decide) ?_
          refine sg_goto (pc := 90) (tgt := 94) (dc_X2_isSoundSign_86.1.2.1) (by decide) ?_
          refine sg_zret (pc := 94) (dc_X2_isSoundSign_86.2.1.1) rfl (by first | exact Or.inl rfl | exact Or.inr rfl | omega | assumption) (by first | exact Nat.le_of_ble_eq_true rfl | omega) (by first | exact Nat.le_of_ble_eq_true rfl | omega) ?_
          first
            | exact hQ _ rfl
            | (exfalso; rcases fd_3 x with f3 | f3
               · omega
               · rw [← h64, ← h76, ← h79, ← h83] at f3; omega)
        · refine sg_iload_n (pc := 73) (j := 3) (dc_X2_isSoundSign_56.2.1.2.1) rfl rfl ?_
          refine sg_bipush (pc := 74) (z := 36) (dc_X2_isSoundSign_56.2.1.2.2) (by decide) ?_
          refine sg_cS2 (pc := 76) (d' := d - 1) (mc' := 0) (ms' := 0) g (dc_X2_isSoundSign_56.2.2.1.1) cb_X2_digitOf ml_X2_43 ms_X2_digitOf (Nat.le_of_ble_eq_true rfl) (by first | exact jl_d0 hd rfl | omega) (by first | exact Nat.le_of_ble_eq_true rfl | omega) (by first | exact Nat.le_of_ble_eq_true rfl | omega) ?_
          refine s_X2_digitOf g (by first | exact jl_d1 hd rfl | omega) (fun z76 h76 => sg_K1 ?_)
          refine sg_cS1 (pc := 79) (d' := d - 1) (mc' := 0) (ms' := 0) g (dc_X2_isSoundSign_56.2.2.1.2) cb_X2_upperOf ml_X2_50 ms_X2_upperOf (Nat.le_of_ble_eq_true rfl) (by first | exact jl_d0 hd rfl | omega) (by first | exact Nat.le_of_ble_eq_true rfl | omega) (by first | exact Nat.le_of_ble_eq_true rfl | omega) ?_
          refine s_X2_upperOf g (by first | exact jl_d1 hd rfl | omega) (fun z79 h79 => sg_K1 ?_)
          refine sg_iload_n (pc := 82) (j := 0) (dc_X2_isSoundSign_56.2.2.2.1) rfl rfl ?_
          refine sg_cS1 (pc := 83) (d' := d - 1) (mc' := 0) (ms' := 0) g (dc_X2_isSoundSign_56.2.2.2.2) cb_X2_upperOf ml_X2_50 ms_X2_upperOf (Nat.le_of_ble_eq_true rfl) (by first | exact jl_d0 hd rfl | omega) (by first | exact Nat.le_of_ble_eq_true rfl | omega) (by first | exact Nat.le_of_ble_eq_true rfl | omega) ?_
          refine s_X2_upperOf g (by first | exact jl_d1 hd rfl | omega) (fun z83 h83 => sg_K1 ?_)
          refine sg_icmp_ne (pc := 86) (tgt := 93) (dc_X2_isSoundSign_86.1.1.1) (by decide) (fun c86 => ?_) (fun c86 => ?_)
          · refine sg_iconst (pc := 93) (z := 0) (dc_X2_isSoundSign_86.1.2.2) (by decide) ?_
            refine sg_zret (pc := 94) (dc_X2_isSoundSign_86.2.1.1) rfl (by first | exact Or.inl rfl | exact Or.inr rfl | omega | assumption) (by first | exact Nat.le_of_ble_eq_true rfl | omega) (by first | exact Nat.le_of_ble_eq_true rfl | omega) ?_
            first
              | exact hQ _ rfl
              | (exfalso; rcases fd_3 x with f3 | f3
                 · omega
                 · rw [← h64, ← h76, ← h79, ← h83] at f3; omega)
          · refine sg_iconst (pc := 89) (z := 1) (dc_X2_isSoundSign_86.1.1.2) (by decide) ?_
            refine sg_goto (pc := 90) (tgt := 94) (dc_X2_isSoundSign_86.1.2.1) (by decide) ?_
            refine sg_zret (pc := 94) (dc_X2_isSoundSign_86.2.1.1) rfl (by first | exact Or.inl rfl | exact Or.inr rfl | omega | assumption) (by first | exact Nat.le_of_ble_eq_true rfl | omega) (by first | exact Nat.le_of_ble_eq_true rfl | omega) ?_
            first
              | exact hQ _ rfl
              | (exfalso; rcases fd_3 x with f3 | f3
                 · omega
                 · rw [← h64, ← h76, ← h79, ← h83] at f3; omega)
      · refine sg_iload_n (pc := 46) (j := 2) (dc_X2_isSoundSign_28.2.1.2.1) rfl rfl ?_
        refine sg_iload_n (pc := 47) (j := 0) (dc_X2_isSoundSign_28.2.1.2.2) rfl rfl ?_
        refine sg_icmp_eq (pc := 48) (tgt := 59) (dc_X2_isSoundSign_28.2.2.1.1) (by decide) (fun c48 => ?_) (fun c48 => ?_)
        · refine sg_iconst (pc := 59) (z := 0) (dc_X2_isSoundSign_56.1.1.1.2) (by decide) ?_
          refine sg_zret (pc := 60) (dc_X2_isSoundSign_56.1.1.2.1) rfl (by first | exact Or.inl rfl | exact Or.inr rfl | omega | assumption) (by first | exact Nat.le_of_ble_eq_true rfl | omega) (by first | exact Nat.le_of_ble_eq_true rfl | omega) ?_
          exfalso
          have f2 := fd_2 (x := x) (by omega)
          rw [← h34] at f2
          first
            | omega
            | (rw [← h52] at f2; omega)
        · refine sg_iload_n (pc := 51) (j := 2) (dc_X2_isSoundSign_28.2.2.1.2) rfl rfl ?_
          refine sg_cS1 (pc := 52) (d' := d - 1) (mc' := 0) (ms' := 0) g (dc_X2_isSoundSign_28.2.2.2.1) cb_X2_upperOf ml_X2_50 ms_X2_upperOf (Nat.le_of_ble_eq_true rfl) (by first | exact jl_d0 hd rfl | omega) (by first | exact Nat.le_of_ble_eq_true rfl | omega) (by first | exact Nat.le_of_ble_eq_true rfl | omega) ?_
          refine s_X2_upperOf g (by first | exact jl_d1 hd rfl | omega) (fun z52 h52 => sg_K1 ?_)
          refine sg_iload_n (pc := 55) (j := 0) (dc_X2_isSoundSign_28.2.2.2.2) rfl rfl ?_
          refine sg_icmp_eq (pc := 56) (tgt := 61) (dc_X2_isSoundSign_56.1.1.1.1) (by decide) (fun c56 => ?_) (fun c56 => ?_)
          · refine sg_iload_n (pc := 61) (j := 0) (dc_X2_isSoundSign_56.1.1.2.2) rfl rfl ?_
            refine sg_bipush (pc := 62) (z := 36) (dc_X2_isSoundSign_56.1.2.1.1) (by decide) ?_
            refine sg_cS2 (pc := 64) (d' := d - 1) (mc' := 0) (ms' := 0) g (dc_X2_isSoundSign_56.1.2.1.2) cb_X2_numberOf ml_X2_53 ms_X2_numberOf (Nat.le_of_ble_eq_true rfl) (by first | exact jl_d0 hd rfl | omega) (by first | exact Nat.le_of_ble_eq_true rfl | omega) (by first | exact Nat.le_of_ble_eq_true rfl | omega) ?_
            refine s_X2_numberOf g (by first | exact jl_d1 hd rfl | omega) (fun z64 h64 => sg_K1 ?_)
            refine sg_istore_n (pc := 67) (j := 3) (dc_X2_isSoundSign_56.1.2.2.1) rfl (by decide) ?_
            refine sg_iload_n (pc := 68) (j := 3) (dc_X2_isSoundSign_56.1.2.2.2) rfl rfl ?_
            refine sg_iconst (pc := 69) (z := -1) (dc_X2_isSoundSign_56.2.1.1.1) (by decide) ?_
            refine sg_icmp_eq (pc := 70) (tgt := 89) (dc_X2_isSoundSign_56.2.1.1.2) (by decide) (fun c70 => ?_) (fun c70 => ?_)
            · refine sg_iconst (pc := 89) (z := 1) (dc_X2_isSoundSign_86.1.1.2) (by decide) ?_
              refine sg_goto (pc := 90) (tgt := 94) (dc_X2_isSoundSign_86.1.2.1) (by decide) ?_
              refine sg_zret (pc := 94) (dc_X2_isSoundSign_86.2.1.1) rfl (by first | exact Or.inl rfl | exact Or.inr rfl | omega | assumption) (by first | exact Nat.le_of_ble_eq_true rfl | omega) (by first | exact Nat.le_of_ble_eq_true rfl | omega) ?_
              first
                | exact hQ _ rfl
                | (exfalso; rcases fd_3 x with f3 | f3
                   · omega
                   · rw [← h64, ← h76, ← h79, ← h83] at f3; omega)
            · refine sg_iload_n (pc := 73) (j := 3) (dc_X2_isSoundSign_56.2.1.2.1) rfl rfl ?_
              refine sg_bipush (pc := 74) (z := 36) (dc_X2_isSoundSign_56.2.1.2.2) (by decide) ?_
              refine sg_cS2 (pc := 76) (d' := d - 1) (mc' := 0) (ms' := 0) g (dc_X2_isSoundSign_56.2.2.1.1) cb_X2_digitOf ml_X2_43 ms_X2_digitOf (Nat.le_of_ble_eq_true rfl) (by first | exact jl_d0 hd rfl | omega) (by first | exact Nat.le_of_ble_eq_true rfl | omega) (by first | exact Nat.le_of_ble_eq_true rfl | omega) ?_
              refine s_X2_digitOf g (by first | exact jl_d1 hd rfl | omega) (fun z76 h76 => sg_K1 ?_)
              refine sg_cS1 (pc := 79) (d' := d - 1) (mc' := 0) (ms' := 0) g (dc_X2_isSoundSign_56.2.2.1.2) cb_X2_upperOf ml_X2_50 ms_X2_upperOf (Nat.le_of_ble_eq_true rfl) (by first | exact jl_d0 hd rfl | omega) (by first | exact Nat.le_of_ble_eq_true rfl | omega) (by first | exact Nat.le_of_ble_eq_true rfl | omega) ?_
              refine s_X2_upperOf g (by first | exact jl_d1 hd rfl | omega) (fun z79 h79 => sg_K1 ?_)
              refine sg_iload_n (pc := 82) (j := 0) (dc_X2_isSoundSign_56.2.2.2.1) rfl rfl ?_
              refine sg_cS1 (pc := 83) (d' := d - 1) (mc' := 0) (ms' := 0) g (dc_X2_isSoundSign_56.2.2.2.2) cb_X2_upperOf ml_X2_50 ms_X2_upperOf (Nat.le_of_ble_eq_true rfl) (by first | exact jl_d0 hd rfl | omega) (by first | exact Nat.le_of_ble_eq_true rfl | omega) (by first | exact Nat.le_of_ble_eq_true rfl | omega) ?_
              refine s_X2_upperOf g (by first | exact jl_d1 hd rfl | omega) (fun z83 h83 => sg_K1 ?_)
              refine sg_icmp_ne (pc := 86) (tgt := 93) (dc_X2_isSoundSign_86.1.1.1) (by decide) (fun c86 => ?_) (fun c86 => ?_)
              · refine sg_iconst (pc := 93) (z := 0) (dc_X2_isSoundSign_86.1.2.2) (by decide) ?_
                refine sg_zret (pc := 94) (dc_X2_isSoundSign_86.2.1.1) rfl (by first | exact Or.inl rfl | exact Or.inr rfl | omega | assumption) (by first | exact Nat.le_of_ble_eq_true rfl | omega) (by first | exact Nat.le_of_ble_eq_true rfl | omega) ?_
                first
                  | exact hQ _ rfl
                  | (exfalso; rcases fd_3 x with f3 | f3
                     · omega
                     · rw [← h64, ← h76, ← h79, ← h83] at f3; omega)
              · refine sg_iconst (pc := 89) (z := 1) (dc_X2_isSoundSign_86.1.1.2) (by decide) ?_
                refine sg_goto (pc := 90) (tgt := 94) (dc_X2_isSoundSign_86.1.2.1) (by decide) ?_
                refine sg_zret (pc := 94) (dc_X2_isSoundSign_86.2.1.1) rfl (by first | exact Or.inl rfl | exact Or.inr rfl | omega | assumption) (by first | exact Nat.le_of_ble_eq_true rfl | omega) (by first | exact Nat.le_of_ble_eq_true rfl | omega) ?_
                first
                  | exact hQ _ rfl
                  | (exfalso; rcases fd_3 x with f3 | f3
                     · omega
                     · rw [← h64, ← h76, ← h79, ← h83] at f3; omega)
          · refine sg_iconst (pc := 59) (z := 0) (dc_X2_isSoundSign_56.1.1.1.2) (by decide) ?_
            refine sg_zret (pc := 60) (dc_X2_isSoundSign_56.1.1.2.1) rfl (by first | exact Or.inl rfl | exact Or.inr rfl | omega | assumption) (by first | exact Nat.le_of_ble_eq_true rfl | omega) (by first | exact Nat.le_of_ble_eq_true rfl | omega) ?_
            exfalso
            have f2 := fd_2 (x := x) (by omega)
            rw [← h34] at f2
            first
              | omega
              | (rw [← h52] at f2; omega)
    · refine sg_iconst (pc := 31) (z := 0) (dc_X2_isSoundSign_28.1.1.1.2) (by decide) ?_
      refine sg_zret (pc := 32) (dc_X2_isSoundSign_28.1.1.2.1) rfl (by first | exact Or.inl rfl | exact Or.inr rfl | omega | assumption) (by first | exact Nat.le_of_ble_eq_true rfl | omega) (by first | exact Nat.le_of_ble_eq_true rfl | omega) ?_
      exfalso
      have f1 := fd_1 x
      split at f1 <;> omega
  · refine sg_iload_n (pc := 8) (j := 0) (dc_X2_isSoundSign_0.1.2.1.1) rfl rfl ?_
    refine sg_iconst (pc := 9) (z := 0) (dc_X2_isSoundSign_0.1.2.1.2) (by decide) ?_
    refine sg_cS2 (pc := 10) (d' := d - 1) (mc' := 0) (ms' := 0) g (dc_X2_isSoundSign_0.1.2.2.1) cb_X2_isOf ml_X2_25 ms_X2_isOf (Nat.le_of_ble_eq_true rfl) (by first | exact jl_d0 hd rfl | omega) (by first | exact Nat.le_of_ble_eq_true rfl | omega) (by first | exact Nat.le_of_ble_eq_true rfl | omega) ?_
    refine s_X2_isOf g (by first | exact jl_d1 hd rfl | omega) (fun z10 h10 b10 => sg_K1 ?_)
    refine sg_if_eq (pc := 13) (tgt := 20) (dc_X2_isSoundSign_0.1.2.2.2) (by decide) (fun c13 => ?_) (fun c13 => ?_)
    · refine sg_iconst (pc := 20) (z := 0) (dc_X2_isSoundSign_0.2.1.2.1) (by decide) ?_
      refine sg_istore_n (pc := 21) (j := 1) (dc_X2_isSoundSign_0.2.1.2.2) rfl (by decide) ?_
      refine sg_iload_n (pc := 22) (j := 0) (dc_X2_isSoundSign_0.2.2.1.1) rfl rfl ?_
      refine sg_iconst (pc := 23) (z := 2) (dc_X2_isSoundSign_0.2.2.1.2) (by decide) ?_
      refine sg_cS2 (pc := 24) (d' := d - 1) (mc' := 0) (ms' := 0) g (dc_X2_isSoundSign_0.2.2.2.1) cb_X2_isOf ml_X2_25 ms_X2_isOf (Nat.le_of_ble_eq_true rfl) (by first | exact jl_d0 hd rfl | omega) (by first | exact Nat.le_of_ble_eq_true rfl | omega) (by first | exact Nat.le_of_ble_eq_true rfl | omega) ?_
      refine s_X2_isOf g (by first | exact jl_d1 hd rfl | omega) (fun z24 h24 b24 => sg_K1 ?_)
      refine sg_iload_n (pc := 27) (j := 1) (dc_X2_isSoundSign_0.2.2.2.2) rfl rfl ?_
      refine sg_icmp_eq (pc := 28) (tgt := 33) (dc_X2_isSoundSign_28.1.1.1.1) (by decide) (fun c28 => ?_) (fun c28 => ?_)
      · refine sg_iload_n (pc := 33) (j := 0) (dc_X2_isSoundSign_28.1.1.2.2) rfl rfl ?_
        refine sg_cS1 (pc := 34) (d' := d - 1) (mc' := 0) (ms' := 0) g (dc_X2_isSoundSign_28.1.2.1.1) cb_X2_lowerOf ml_X2_47 ms_X2_lowerOf (Nat.le_of_ble_eq_true rfl) (by first | exact jl_d0 hd rfl | omega) (by first | exact Nat.le_of_ble_eq_true rfl | omega) (by first | exact Nat.le_of_ble_eq_true rfl | omega) ?_
        refine s_X2_lowerOf g (by first | exact jl_d1 hd rfl | omega) (fun z34 h34 => sg_K1 ?_)
        refine sg_istore_n (pc := 37) (j := 2) (dc_X2_isSoundSign_28.1.2.1.2) rfl (by decide) ?_
        refine sg_iload_n (pc := 38) (j := 0) (dc_X2_isSoundSign_28.1.2.2.1) rfl rfl ?_
        refine sg_iconst (pc := 39) (z := 4) (dc_X2_isSoundSign_28.1.2.2.2) (by decide) ?_
        refine sg_cS2 (pc := 40) (d' := d - 1) (mc' := 0) (ms' := 0) g (dc_X2_isSoundSign_28.2.1.1.1) cb_X2_isOf ml_X2_25 ms_X2_isOf (Nat.le_of_ble_eq_true rfl) (by first | exact jl_d0 hd rfl | omega) (by first | exact Nat.le_of_ble_eq_true rfl | omega) (by first | exact Nat.le_of_ble_eq_true rfl | omega) ?_
        refine s_X2_isOf g (by first | exact jl_d1 hd rfl | omega) (fun z40 h40 b40 => sg_K1 ?_)
        refine sg_if_eq (pc := 43) (tgt := 61) (dc_X2_isSoundSign_28.2.1.1.2) (by decide) (fun c43 => ?_) (fun c43 => ?_)
        · refine sg_iload_n (pc := 61) (j := 0) (dc_X2_isSoundSign_56.1.1.2.2) rfl rfl ?_
          refine sg_bipush (pc := 62) (z := 36) (dc_X2_isSoundSign_56.1.2.1.1) (by decide) ?_
          refine sg_cS2 (pc := 64) (d' := d - 1) (mc' := 0) (ms' := 0) g (dc_X2_isSoundSign_56.1.2.1.2) cb_X2_numberOf ml_X2_53 ms_X2_numberOf (Nat.le_of_ble_eq_true rfl) (by first | exact jl_d0 hd rfl | omega) (by first | exact Nat.le_of_ble_eq_true rfl | omega) (by first | exact Nat.le_of_ble_eq_true rfl | omega) ?_
          refine s_X2_numberOf g (by first | exact jl_d1 hd rfl | omega) (fun z64 h64 => sg_K1 ?_)
          refine sg_istore_n (pc := 67) (j := 3) (dc_X2_isSoundSign_56.1.2.2.1) rfl (by decide) ?_
          refine sg_iload_n (pc := 68) (j := 3) (dc_X2_isSoundSign_56.1.2.2.2) rfl rfl ?_
          refine sg_iconst (pc := 69) (z := -1) (dc_X2_isSoundSign_56.2.1.1.1) (by decide) ?_
          refine sg_icmp_eq (pc := 70) (tgt := 89) (dc_X2_isSoundSign_56.2.1.1.2) (by decide) (fun c70 => ?_) (fun c70 => ?_)
          · refine sg_iconst (pc := 89) (z := 1) (dc_X2_isSoundSign_86.1.1.2) (by decide) ?_
            refine sg_goto (pc := 90) (tgt := 94) (dc_X2_isSoundSign_86.1.2.1) (by decide) ?_
            refine sg_zret (pc := 94) (dc_X2_isSoundSign_86.2.1.1) rfl (by first | exact Or.inl rfl | exact Or.inr rfl | omega | assumption) (by first | exact Nat.le_of_ble_eq_true rfl | omega) (by first | exact Nat.le_of_ble_eq_true rfl | omega) ?_
            first
              | exact hQ _ rfl
              | (exfalso; rcases fd_3 x with f3 | f3
                 · omega
                 · rw [← h64, ← h76, ← h79, ← h83] at f3; omega)
          · refine sg_iload_n (pc := 73) (j := 3) (dc_X2_isSoundSign_56.2.1.2.1) rfl rfl ?_
            refine sg_bipush (pc := 74) (z := 36) (dc_X2_isSoundSign_56.2.1.2.2) (by decide) ?_
            refine sg_cS2 (pc := 76) (d' := d - 1) (mc' := 0) (ms' := 0) g (dc_X2_isSoundSign_56.2.2.1.1) cb_X2_digitOf ml_X2_43 ms_X2_digitOf (Nat.le_of_ble_eq_true rfl) (by first | exact jl_d0 hd rfl | omega) (by first | exact Nat.le_of_ble_eq_true rfl | omega) (by first | exact Nat.le_of_ble_eq_true rfl | omega) ?_
            refine s_X2_digitOf g (by first | exact jl_d1 hd rfl | omega) (fun z76 h76 => sg_K1 ?_)
            refine sg_cS1 (pc := 79) (d' := d - 1) (mc' := 0) (ms' := 0) g (dc_X2_isSoundSign_56.2.2.1.2) cb_X2_upperOf ml_X2_50 ms_X2_upperOf (Nat.le_of_ble_eq_true rfl) (by first | exact jl_d0 hd rfl | omega) (by first | exact Nat.le_of_ble_eq_true rfl | omega) (by first | exact Nat.le_of_ble_eq_true rfl | omega) ?_
            refine s_X2_upperOf g (by first | exact jl_d1 hd rfl | omega) (fun z79 h79 => sg_K1 ?_)
            refine sg_iload_n (pc := 82) (j := 0) (dc_X2_isSoundSign_56.2.2.2.1) rfl rfl ?_
            refine sg_cS1 (pc := 83) (d' := d - 1) (mc' := 0) (ms' := 0) g (dc_X2_isSoundSign_56.2.2.2.2) cb_X2_upperOf ml_X2_50 ms_X2_upperOf (Nat.le_of_ble_eq_true rfl) (by first | exact jl_d0 hd rfl | omega) (by first | exact Nat.le_of_ble_eq_true rfl | omega) (by first | exact Nat.le_of_ble_eq_true rfl | omega) ?_
            refine s_X2_upperOf g (by first | exact jl_d1 hd rfl | omega) (fun z83 h83 => sg_K1 ?_)
            refine sg_icmp_ne (pc := 86) (tgt := 93) (dc_X2_isSoundSign_86.1.1.1) (by decide) (fun c86 => ?_) (fun c86 => ?_)
            · refine sg_iconst (pc := 93) (z := 0) (dc_X2_isSoundSign_86.1.2.2) (by decide) ?_
              refine sg_zret (pc := 94) (dc_X2_isSoundSign_86.2.1.1) rfl (by first | exact Or.inl rfl | exact Or.inr rfl | omega | assumption) (by first | exact Nat.le_of_ble_eq_true rfl | omega) (by first | exact Nat.le_of_ble_eq_true rfl | omega) ?_
              first
                | exact hQ _ rfl
                | (exfalso; rcases fd_3 x with f3 | f3
                   · omega
                   · rw [← h64, ← h76, ← h79, ← h83] at f3; omega)
            · refine sg_iconst (pc := 89) (z := 1) (dc_X2_isSoundSign_86.1.1.2) (by decide) ?_
              refine sg_goto (pc := 90) (tgt := 94) (dc_X2_isSoundSign_86.1.2.1) (by decide) ?_
              refine sg_zret (pc := 94) (dc_X2_isSoundSign_86.2.1.1) rfl (by first | exact Or.inl rfl | exact Or.inr rfl | omega | assumption) (by first | exact Nat.le_of_ble_eq_true rfl | omega) (by first | exact Nat.le_of_ble_eq_true rfl | omega) ?_
              first
                | exact hQ _ rfl
                | (exfalso; rcases fd_3 x with f3 | f3
                   · omega
                   · rw [← h64, ← h76, ← h79, ← h83] at f3; omega)
        · refine sg_iload_n (pc := 46) (j := 2) (dc_X2_isSoundSign_28.2.1.2.1) rfl rfl ?_
          refine sg_iload_n (pc := 47) (j := 0) (dc_X2_isSoundSign_28.2.1.2.2) rfl rfl ?_
          refine sg_icmp_eq (pc := 48) (tgt := 59) (dc_X2_isSoundSign_28.2.2.1.1) (by decide) (fun c48 => ?_) (fun c48 => ?_)
          · refine sg_iconst (pc := 59) (z := 0) (dc_X2_isSoundSign_56.1.1.1.2) (by decide) ?_
            refine sg_zret (pc := 60) (dc_X2_isSoundSign_56.1.1.2.1) rfl (by first | exact Or.inl rfl | exact Or.inr rfl | omega | assumption) (by first | exact Nat.le_of_ble_eq_true rfl | omega) (by first | exact Nat.le_of_ble_eq_true rfl | omega) ?_
            exfalso
            have f2 := fd_2 (x := x) (by omega)
            rw [← h34] at f2
            first
              | omega
              | (rw [← h52] at f2; omega)
          · refine sg_iload_n (pc := 51) (j := 2) (dc_X2_isSoundSign_28.2.2.1.2) rfl rfl ?_
            refine sg_cS1 (pc := 52) (d' := d - 1) (mc' := 0) (ms' := 0) g (dc_X2_isSoundSign_28.2.2.2.1) cb_X2_upperOf ml_X2_50 ms_X2_upperOf (Nat.le_of_ble_eq_true rfl) (by first | exact jl_d0 hd rfl | omega) (by first | exact Nat.le_of_ble_eq_true rfl | omega) (by first | exact Nat.le_of_ble_eq_true rfl | omega) ?_
            refine s_X2_upperOf g (by first | exact jl_d1 hd rfl | omega) (fun z52 h52 => sg_K1 ?_)
            refine sg_iload_n (pc := 55) (j := 0) (dc_X2_isSoundSign_28.2.2.2.2) rfl rfl ?_
            refine sg_icmp_eq (pc := 56) (tgt := 61) (dc_X2_isSoundSign_56.1.1.1.1) (by decide) (fun c56 => ?_) (fun c56 => ?_)
            · refine sg_iload_n (pc := 61) (j := 0) (dc_X2_isSoundSign_56.1.1.2.2) rfl rfl ?_
              refine sg_bipush (pc := 62) (z := 36) (dc_X2_isSoundSign_56.1.2.1.1) (by decide) ?_
              refine sg_cS2 (pc := 64) (d' := d - 1) (mc' := 0) (ms' := 0) g (dc_X2_isSoundSign_56.1.2.1.2) cb_X2_numberOf ml_X2_53 ms_X2_numberOf (Nat.le_of_ble_eq_true rfl) (by first | exact jl_d0 hd rfl | omega) (by first | exact Nat.le_of_ble_eq_true rfl | omega) (by first | exact Nat.le_of_ble_eq_true rfl | omega) ?_
              refine s_X2_numberOf g (by first | exact jl_d1 hd rfl | omega) (fun z64 h64 => sg_K1 ?_)
              refine sg_istore_n (pc := 67) (j := 3) (dc_X2_isSoundSign_56.1.2.2.1) rfl (by decide) ?_
              refine sg_iload_n (pc := 68) (j := 3) (dc_X2_isSoundSign_56.1.2.2.2) rfl rfl ?_
              refine sg_iconst (pc := 69) (z := -1) (dc_X2_isSoundSign_56.2.1.1.1) (by decide) ?_
              refine sg_icmp_eq (pc := 70) (tgt := 89) (dc_X2_isSoundSign_56.2.1.1.2) (by decide) (fun c70 => ?_) (fun c70 => ?_)
              · refine sg_iconst (pc := 89) (z := 1) (dc_X2_isSoundSign_86.1.1.2) (by decide) ?_
                refine sg_goto (pc := 90) (tgt := 94) (dc_X2_isSoundSign_86.1.2.1) (by decide) ?_
                refine sg_zret (pc := 94) (dc_X2_isSoundSign_86.2.1.1) rfl (by first | exact Or.inl rfl | exact Or.inr rfl | omega | assumption) (by first | exact Nat.le_of_ble_eq_true rfl | omega) (by first | exact Nat.le_of_ble_eq_true rfl | omega) ?_
                first
                  | exact hQ _ rfl
                  | (exfalso; rcases fd_3 x with f3 | f3
                     · omega
                     · rw [← h64, ← h76, ← h79, ← h83] at f3; omega)
              · refine sg_iload_n (pc := 73) (j := 3) (dc_X2_isSoundSign_56.2.1.2.1) rfl rfl ?_
                refine sg_bipush (pc := 74) (z := 36) (dc_X2_isSoundSign_56.2.1.2.2) (by decide) ?_
                refine sg_cS2 (pc := 76) (d' := d - 1) (mc' := 0) (ms' := 0) g (dc_X2_isSoundSign_56.2.2.1.1) cb_X2_digitOf ml_X2_43 ms_X2_digitOf (Nat.le_of_ble_eq_true rfl) (by first | exact jl_d0 hd rfl | omega) (by first | exact Nat.le_of_ble_eq_true rfl | omega) (by first | exact Nat.le_of_ble_eq_true rfl | omega) ?_
                refine s_X2_digitOf g (by first | exact jl_d1 hd rfl | omega) (fun z76 h76 => sg_K1 ?_)
                refine sg_cS1 (pc := 79) (d' := d - 1) (mc' := 0) (ms' := 0) g (dc_X2_isSoundSign_56.2.2.1.2) cb_X2_upperOf ml_X2_50 ms_X2_upperOf (Nat.le_of_ble_eq_true rfl) (by first | exact jl_d0 hd rfl | omega) (by first | exact Nat.le_of_ble_eq_true rfl | omega) (by first | exact Nat.le_of_ble_eq_true rfl | omega) ?_
                refine s_X2_upperOf g (by first | exact jl_d1 hd rfl | omega) (fun z79 h79 => sg_K1 ?_)
                refine sg_iload_n (pc := 82) (j := 0) (dc_X2_isSoundSign_56.2.2.2.1) rfl rfl ?_
                refine sg_cS1 (pc := 83) (d' := d - 1) (mc' := 0) (ms' := 0) g (dc_X2_isSoundSign_56.2.2.2.2) cb_X2_upperOf ml_X2_50 ms_X2_upperOf (Nat.le_of_ble_eq_true rfl) (by first | exact jl_d0 hd rfl | omega) (by first | exact Nat.le_of_ble_eq_true rfl | omega) (by first | exact Nat.le_of_ble_eq_true rfl | omega) ?_
                refine s_X2_upperOf g (by first | exact jl_d1 hd rfl | omega) (fun z83 h83 => sg_K1 ?_)
                refine sg_icmp_ne (pc := 86) (tgt := 93) (dc_X2_isSoundSign_86.1.1.1) (by decide) (fun c86 => ?_) (fun c86 => ?_)
                · refine sg_iconst (pc := 93) (z := 0) (dc_X2_isSoundSign_86.1.2.2) (by decide) ?_
                  refine sg_zret (pc := 94) (dc_X2_isSoundSign_86.2.1.1) rfl (by first | exact Or.inl rfl | exact Or.inr rfl | omega | assumption) (by first | exact Nat.le_of_ble_eq_true rfl | omega) (by first | exact Nat.le_of_ble_eq_true rfl | omega) ?_
                  first
                    | exact hQ _ rfl
                    | (exfalso; rcases fd_3 x with f3 | f3
                       · omega
                       · rw [← h64, ← h76, ← h79, ← h83] at f3; omega)
                · refine sg_iconst (pc := 89) (z := 1) (dc_X2_isSoundSign_86.1.1.2) (by decide) ?_
                  refine sg_goto (pc := 90) (tgt := 94) (dc_X2_isSoundSign_86.1.2.1) (by decide) ?_
                  refine sg_zret (pc := 94) (dc_X2_isSoundSign_86.2.1.1) rfl (by first | exact Or.inl rfl | exact Or.inr rfl | omega | assumption) (by first | exact Nat.le_of_ble_eq_true rfl | omega) (by first | exact Nat.le_of_ble_eq_true rfl | omega) ?_
                  first
                    | exact hQ _ rfl
                    | (exfalso; rcases fd_3 x with f3 | f3
                       · omega
                       · rw [← h64, ← h76, ← h79, ← h83] at f3; omega)
            · refine sg_iconst (pc := 59) (z := 0) (dc_X2_isSoundSign_56.1.1.1.2) (by decide) ?_
              refine sg_zret (pc := 60) (dc_X2_isSoundSign_56.1.1.2.1) rfl (by first | exact Or.inl rfl | exact Or.inr rfl | omega | assumption) (by first | exact Nat.le_of_ble_eq_true rfl | omega) (by first | exact Nat.le_of_ble_eq_true rfl | omega) ?_
              exfalso
              have f2 := fd_2 (x := x) (by omega)
              rw [← h34] at f2
              first
                | omega
                | (rw [← h52] at f2; omega)
      · refine sg_iconst (pc := 31) (z := 0) (dc_X2_isSoundSign_28.1.1.1.2) (by decide) ?_
        refine sg_zret (pc := 32) (dc_X2_isSoundSign_28.1.1.2.1) rfl (by first | exact Or.inl rfl | exact Or.inr rfl | omega | assumption) (by first | exact Nat.le_of_ble_eq_true rfl | omega) (by first | exact Nat.le_of_ble_eq_true rfl | omega) ?_
        exfalso
        have f1 := fd_1 x
        split at f1 <;> omega
    · refine sg_iconst (pc := 16) (z := 1) (dc_X2_isSoundSign_0.2.1.1.1) (by decide) ?_
      refine sg_goto (pc := 17) (tgt := 21) (dc_X2_isSoundSign_0.2.1.1.2) (by decide) ?_
      refine sg_istore_n (pc := 21) (j := 1) (dc_X2_isSoundSign_0.2.1.2.2) rfl (by decide) ?_
      refine sg_iload_n (pc := 22) (j := 0) (dc_X2_isSoundSign_0.2.2.1.1) rfl rfl ?_
      refine sg_iconst (pc := 23) (z := 2) (dc_X2_isSoundSign_0.2.2.1.2) (by decide) ?_
      refine sg_cS2 (pc := 24) (d' := d - 1) (mc' := 0) (ms' := 0) g (dc_X2_isSoundSign_0.2.2.2.1) cb_X2_isOf ml_X2_25 ms_X2_isOf (Nat.le_of_ble_eq_true rfl) (by first | exact jl_d0 hd rfl | omega) (by first | exact Nat.le_of_ble_eq_true rfl | omega) (by first | exact Nat.le_of_ble_eq_true rfl | omega) ?_
      refine s_X2_isOf g (by first | exact jl_d1 hd rfl | omega) (fun z24 h24 b24 => sg_K1 ?_)
      refine sg_iload_n (pc := 27) (j := 1) (dc_X2_isSoundSign_0.2.2.2.2) rfl rfl ?_
      refine sg_icmp_eq (pc := 28) (tgt := 33) (dc_X2_isSoundSign_28.1.1.1.1) (by decide) (fun c28 => ?_) (fun c28 => ?_)
      · refine sg_iload_n (pc := 33) (j := 0) (dc_X2_isSoundSign_28.1.1.2.2) rfl rfl ?_
        refine sg_cS1 (pc := 34) (d' := d - 1) (mc' := 0) (ms' := 0) g (dc_X2_isSoundSign_28.1.2.1.1) cb_X2_lowerOf ml_X2_47 ms_X2_lowerOf (Nat.le_of_ble_eq_true rfl) (by first | exact jl_d0 hd rfl | omega) (by first | exact Nat.le_of_ble_eq_true rfl | omega) (by first | exact Nat.le_of_ble_eq_true rfl | omega) ?_
        refine s_X2_lowerOf g (by first | exact jl_d1 hd rfl | omega) (fun z34 h34 => sg_K1 ?_)
        refine sg_istore_n (pc := 37) (j := 2) (dc_X2_isSoundSign_28.1.2.1.2) rfl (by decide) ?_
        refine sg_iload_n (pc := 38) (j := 0) (dc_X2_isSoundSign_28.1.2.2.1) rfl rfl ?_
        refine sg_iconst (pc := 39) (z := 4) (dc_X2_isSoundSign_28.1.2.2.2) (by decide) ?_
        refine sg_cS2 (pc := 40) (d' := d - 1) (mc' := 0) (ms' := 0) g (dc_X2_isSoundSign_28.2.1.1.1) cb_X2_isOf ml_X2_25 ms_X2_isOf (Nat.le_of_ble_eq_true rfl) (by first | exact jl_d0 hd rfl | omega) (by first | exact Nat.le_of_ble_eq_true rfl | omega) (by first | exact Nat.le_of_ble_eq_true rfl | omega) ?_
        refine s_X2_isOf g (by first | exact jl_d1 hd rfl | omega) (fun z40 h40 b40 => sg_K1 ?_)
        refine sg_if_eq (pc := 43) (tgt := 61) (dc_X2_isSoundSign_28.2.1.1.2) (by decide) (fun c43 => ?_) (fun c43 => ?_)
        · refine sg_iload_n (pc := 61) (j := 0) (dc_X2_isSoundSign_56.1.1.2.2) rfl rfl ?_
          refine sg_bipush (pc := 62) (z := 36) (dc_X2_isSoundSign_56.1.2.1.1) (by decide) ?_
          refine sg_cS2 (pc := 64) (d' := d - 1) (mc' := 0) (ms' := 0) g (dc_X2_isSoundSign_56.1.2.1.2) cb_X2_numberOf ml_X2_53 ms_X2_numberOf (Nat.le_of_ble_eq_true rfl) (by first | exact jl_d0 hd rfl | omega) (by first | exact Nat.le_of_ble_eq_true rfl | omega) (by first | exact Nat.le_of_ble_eq_true rfl | omega) ?_
          refine s_X2_numberOf g (by first | exact jl_d1 hd rfl | omega) (fun z64 h64 => sg_K1 ?_)
          refine sg_istore_n (pc := 67) (j := 3) (dc_X2_isSoundSign_56.1.2.2.1) rfl (by decide) ?_
          refine sg_iload_n (pc := 68) (j := 3) (dc_X2_isSoundSign_56.1.2.2.2) rfl rfl ?_
          refine sg_iconst (pc := 69) (z := -1) (dc_X2_isSoundSign_56.2.1.1.1) (by decide) ?_
          refine sg_icmp_eq (pc := 70) (tgt := 89) (dc_X2_isSoundSign_56.2.1.1.2) (by decide) (fun c70 => ?_) (fun c70 => ?_)
          · refine sg_iconst (pc := 89) (z := 1) (dc_X2_isSoundSign_86.1.1.2) (by decide) ?_
            refine sg_goto (pc := 90) (tgt := 94) (dc_X2_isSoundSign_86.1.2.1) (by decide) ?_
            refine sg_zret (pc := 94) (dc_X2_isSoundSign_86.2.1.1) rfl (by first | exact Or.inl rfl | exact Or.inr rfl | omega | assumption) (by first | exact Nat.le_of_ble_eq_true rfl | omega) (by first | exact Nat.le_of_ble_eq_true rfl | omega) ?_
            first
              | exact hQ _ rfl
              | (exfalso; rcases fd_3 x with f3 | f3
                 · omega
                 · rw [← h64, ← h76, ← h79, ← h83] at f3; omega)
          · refine sg_iload_n (pc := 73) (j := 3) (dc_X2_isSoundSign_56.2.1.2.1) rfl rfl ?_
            refine sg_bipush (pc := 74) (z := 36) (dc_X2_isSoundSign_56.2.1.2.2) (by decide) ?_
            refine sg_cS2 (pc := 76) (d' := d - 1) (mc' := 0) (ms' := 0) g (dc_X2_isSoundSign_56.2.2.1.1) cb_X2_digitOf ml_X2_43 ms_X2_digitOf (Nat.le_of_ble_eq_true rfl) (by first | exact jl_d0 hd rfl | omega) (by first | exact Nat.le_of_ble_eq_true rfl | omega) (by first | exact Nat.le_of_ble_eq_true rfl | omega) ?_
            refine s_X2_digitOf g (by first | exact jl_d1 hd rfl | omega) (fun z76 h76 => sg_K1 ?_)
            refine sg_cS1 (pc := 79) (d' := d - 1) (mc' := 0) (ms' := 0) g (dc_X2_isSoundSign_56.2.2.1.2) cb_X2_upperOf ml_X2_50 ms_X2_upperOf (Nat.le_of_ble_eq_true rfl) (by first | exact jl_d0 hd rfl | omega) (by first | exact Nat.le_of_ble_eq_true rfl | omega) (by first | exact Nat.le_of_ble_eq_true rfl | omega) ?_
            refine s_X2_upperOf g (by first | exact jl_d1 hd rfl | omega) (fun z79 h79 => sg_K1 ?_)
            refine sg_iload_n (pc := 82) (j := 0) (dc_X2_isSoundSign_56.2.2.2.1) rfl rfl ?_
            refine sg_cS1 (pc := 83) (d' := d - 1) (mc' := 0) (ms' := 0) g (dc_X2_isSoundSign_56.2.2.2.2) cb_X2_upperOf ml_X2_50 ms_X2_upperOf (Nat.le_of_ble_eq_true rfl) (by first | exact jl_d0 hd rfl | omega) (by first | exact Nat.le_of_ble_eq_true rfl | omega) (by first | exact Nat.le_of_ble_eq_true rfl | omega) ?_
            refine s_X2_upperOf g (by first | exact jl_d1 hd rfl | omega) (fun z83 h83 => sg_K1 ?_)
            refine sg_icmp_ne (pc := 86) (tgt := 93) (dc_X2_isSoundSign_86.1.1.1) (by decide) (fun c86 => ?_) (fun c86 => ?_)
            · refine sg_iconst (pc := 93) (z := 0) (dc_X2_isSoundSign_86.1.2.2) (by decide) ?_
              refine sg_zret (pc := 94) (dc_X2_isSoundSign_86.2.1.1) rfl (by first | exact Or.inl rfl | exact Or.inr rfl | omega | assumption) (by first | exact Nat.le_of_ble_eq_true rfl | omega) (by first | exact Nat.le_of_ble_eq_true rfl | omega) ?_
              first
                | exact hQ _ rfl
                | (exfalso; rcases fd_3 x with f3 | f3
                   · omega
                   · rw [← h64, ← h76, ← h79, ← h83] at f3; omega)
            · refine sg_iconst (pc := 89) (z := 1) (dc_X2_isSoundSign_86.1.1.2) (by decide) ?_
              refine sg_goto (pc := 90) (tgt := 94) (dc_X2_isSoundSign_86.1.2.1) (by decide) ?_
              refine sg_zret (pc := 94) (dc_X2_isSoundSign_86.2.1.1) rfl (by first | exact Or.inl rfl | exact Or.inr rfl | omega | assumption) (by first | exact Nat.le_of_ble_eq_true rfl | omega) (by first | exact Nat.le_of_ble_eq_true rfl | omega) ?_
              first
                | exact hQ _ rfl
                | (exfalso; rcases fd_3 x with f3 | f3
                   · omega
                   · rw [← h64, ← h76, ← h79, ← h83] at f3; omega)
        · refine sg_iload_n (pc := 46) (j := 2) (dc_X2_isSoundSign_28.2.1.2.1) rfl rfl ?_
          refine sg_iload_n (pc := 47) (j := 0) (dc_X2_isSoundSign_28.2.1.2.2) rfl rfl ?_
          refine sg_icmp_eq (pc := 48) (tgt := 59) (dc_X2_isSoundSign_28.2.2.1.1) (by decide) (fun c48 => ?_) (fun c48 => ?_)
          · refine sg_iconst (pc := 59) (z := 0) (dc_X2_isSoundSign_56.1.1.1.2) (by decide) ?_
            refine sg_zret (pc := 60) (dc_X2_isSoundSign_56.1.1.2.1) rfl (by first | exact Or.inl rfl | exact Or.inr rfl | omega | assumption) (by first | exact Nat.le_of_ble_eq_true rfl | omega) (by first | exact Nat.le_of_ble_eq_true rfl | omega) ?_
            exfalso
            have f2 := fd_2 (x := x) (by omega)
            rw [← h34] at f2
            first
              | omega
              | (rw [← h52] at f2; omega)
          · refine sg_iload_n (pc := 51) (j := 2) (dc_X2_isSoundSign_28.2.2.1.2) rfl rfl ?_
            refine sg_cS1 (pc := 52) (d' := d - 1) (mc' := 0) (ms' := 0) g (dc_X2_isSoundSign_28.2.2.2.1) cb_X2_upperOf ml_X2_50 ms_X2_upperOf (Nat.le_of_ble_eq_true rfl) (by first | exact jl_d0 hd rfl | omega) (by first | exact Nat.le_of_ble_eq_true rfl | omega) (by first | exact Nat.le_of_ble_eq_true rfl | omega) ?_
            refine s_X2_upperOf g (by first | exact jl_d1 hd rfl | omega) (fun z52 h52 => sg_K1 ?_)
            refine sg_iload_n (pc := 55) (j := 0) (dc_X2_isSoundSign_28.2.2.2.2) rfl rfl ?_
            refine sg_icmp_eq (pc := 56) (tgt := 61) (dc_X2_isSoundSign_56.1.1.1.1) (by decide) (fun c56 => ?_) (fun c56 => ?_)
            · refine sg_iload_n (pc := 61) (j := 0) (dc_X2_isSoundSign_56.1.1.2.2) rfl rfl ?_
              refine sg_bipush (pc := 62) (z := 36) (dc_X2_isSoundSign_56.1.2.1.1) (by decide) ?_
              refine sg_cS2 (pc := 64) (d' := d - 1) (mc' := 0) (ms' := 0) g (dc_X2_isSoundSign_56.1.2.1.2) cb_X2_numberOf ml_X2_53 ms_X2_numberOf (Nat.le_of_ble_eq_true rfl) (by first | exact jl_d0 hd rfl | omega) (by first | exact Nat.le_of_ble_eq_true rfl | omega) (by first | exact Nat.le_of_ble_eq_true rfl | omega) ?_
              refine s_X2_numberOf g (by first | exact jl_d1 hd rfl | omega) (fun z64 h64 => sg_K1 ?_)
              refine sg_istore_n (pc := 67) (j := 3) (dc_X2_isSoundSign_56.1.2.2.1) rfl (by decide) ?_
              refine sg_iload_n (pc := 68) (j := 3) (dc_X2_isSoundSign_56.1.2.2.2) rfl rfl ?_
              refine sg_iconst (pc := 69) (z := -1) (dc_X2_isSoundSign_56.2.1.1.1) (by decide) ?_
              refine sg_icmp_eq (pc := 70) (tgt := 89) (dc_X2_isSoundSign_56.2.1.1.2) (by decide) (fun c70 => ?_) (fun c70 => ?_)
              · refine sg_iconst (pc := 89) (z := 1) (dc_X2_isSoundSign_86.1.1.2) (by decide) ?_
                refine sg_goto (pc := 90) (tgt := 94) (dc_X2_isSoundSign_86.1.2.1) (by decide) ?_
                refine sg_zret (pc := 94) (dc_X2_isSoundSign_86.2.1.1) rfl (by first | exact Or.inl rfl | exact Or.inr rfl | omega | assumption) (by first | exact Nat.le_of_ble_eq_true rfl | omega) (by first | exact Nat.le_of_ble_eq_true rfl | omega) ?_
                first
                  | exact hQ _ rfl
                  | (exfalso; rcases fd_3 x with f3 | f3
                     · omega
                     · rw [← h64, ← h76, ← h79, ← h83] at f3; omega)
              · refine sg_iload_n (pc := 73) (j := 3) (dc_X2_isSoundSign_56.2.1.2.1) rfl rfl ?_
                refine sg_bipush (pc := 74) (z := 36) (dc_X2_isSoundSign_56.2.1.2.2) (by decide) ?_
                refine sg_cS2 (pc := 76) (d' := d - 1) (mc' := 0) (ms' := 0) g (dc_X2_isSoundSign_56.2.2.1.1) cb_X2_digitOf ml_X2_43 ms_X2_digitOf (Nat.le_of_ble_eq_true rfl) (by first | exact jl_d0 hd rfl | omega) (by first | exact Nat.le_of_ble_eq_true rfl | omega) (by first | exact Nat.le_of_ble_eq_true rfl | omega) ?_
                refine s_X2_digitOf g (by first | exact jl_d1 hd rfl | omega) (fun z76 h76 => sg_K1 ?_)
                refine sg_cS1 (pc := 79) (d' := d - 1) (mc' := 0) (ms' := 0) g (dc_X2_isSoundSign_56.2.2.1.2) cb_X2_upperOf ml_X2_50 ms_X2_upperOf (Nat.le_of_ble_eq_true rfl) (by first | exact jl_d0 hd rfl | omega) (by first | exact Nat.le_of_ble_eq_true rfl | omega) (by first | exact Nat.le_of_ble_eq_true rfl | omega) ?_
                refine s_X2_upperOf g (by first | exact jl_d1 hd rfl | omega) (fun z79 h79 => sg_K1 ?_)
                refine sg_iload_n (pc := 82) (j := 0) (dc_X2_isSoundSign_56.2.2.2.1) rfl rfl ?_
                refine sg_cS1 (pc := 83) (d' := d - 1) (mc' := 0) (ms' := 0) g (dc_X2_isSoundSign_56.2.2.2.2) cb_X2_upperOf ml_X2_50 ms_X2_upperOf (Nat.le_of_ble_eq_true rfl) (by first | exact jl_d0 hd rfl | omega) (by first | exact Nat.le_of_ble_eq_true rfl | omega) (by first | exact Nat.le_of_ble_eq_true rfl | omega) ?_
                refine s_X2_upperOf g (by first | exact jl_d1 hd rfl | omega) (fun z83 h83 => sg_K1 ?_)
                refine sg_icmp_ne (pc := 86) (tgt := 93) (dc_X2_isSoundSign_86.1.1.1) (by decide) (fun c86 => ?_) (fun c86 => ?_)
                · refine sg_iconst (pc := 93) (z := 0) (dc_X2_isSoundSign_86.1.2.2) (by decide) ?_
                  refine sg_zret (pc := 94) (dc_X2_isSoundSign_86.2.1.1) rfl (by first | exact Or.inl rfl | exact Or.inr rfl | omega | assumption) (by first | exact Nat.le_of_ble_eq_true rfl | omega) (by first | exact Nat.le_of_ble_eq_true rfl | omega) ?_
                  first
                    | exact hQ _ rfl
                    | (exfalso; rcases fd_3 x with f3 | f3
                       · omega
                       · rw [← h64, ← h76, ← h79, ← h83] at f3; omega)
                · refine sg_iconst (pc := 89) (z := 1) (dc_X2_isSoundSign_86.1.1.2) (by decide) ?_
                  refine sg_goto (pc := 90) (tgt := 94) (dc_X2_isSoundSign_86.1.2.1) (by decide) ?_
                  refine sg_zret (pc := 94) (dc_X2_isSoundSign_86.2.1.1) rfl (by first | exact Or.inl rfl | exact Or.inr rfl | omega | assumption) (by first | exact Nat.le_of_ble_eq_true rfl | omega) (by first | exact Nat.le_of_ble_eq_true rfl | omega) ?_
                  first
                    | exact hQ _ rfl
                    | (exfalso; rcases fd_3 x with f3 | f3
                       · omega
                       · rw [← h64, ← h76, ← h79, ← h83] at f3; omega)
            · refine sg_iconst (pc := 59) (z := 0) (dc_X2_isSoundSign_56.1.1.1.2) (by decide) ?_
              refine sg_zret (pc := 60) (dc_X2_isSoundSign_56.1.1.2.1) rfl (by first | exact Or.inl rfl | exact Or.inr rfl | omega | assumption) (by first | exact Nat.le_of_ble_eq_true rfl | omega) (by first | exact Nat.le_of_ble_eq_true rfl | omega) ?_
              exfalso
              have f2 := fd_2 (x := x) (by omega)
              rw [← h34] at f2
              first
                | omega
                | (rw [← h52] at f2; omega)
      · refine sg_iconst (pc := 31) (z := 0) (dc_X2_isSoundSign_28.1.1.1.2) (by decide) ?_
        refine sg_zret (pc := 32) (dc_X2_isSoundSign_28.1.1.2.1) rfl (by first | exact Or.inl rfl | exact Or.inr rfl | omega | assumption) (by first | exact Nat.le_of_ble_eq_true rfl | omega) (by first | exact Nat.le_of_ble_eq_true rfl | omega) ?_
        exfalso
        have f1 := fd_1 x
        split at f1 <;> omega

theorem fd_4 {L : List Int} (hu : ∀ z ∈ L, 0 ≤ z ∧ z ≤ 65535) {p : Nat} (hp : p < L.length) : (¬ fs_bg L (p + 1) ∧ 65536 ≤ fs_cd L p ∧ p + 1 < L.length ∧ L.getD p 0 = 55296 + (fs_cd L p - 65536) / 1024 ∧ L.getD (p + 1) 0 = 56320 + (fs_cd L p - 65536) % 1024) ∨ (fs_bg L (p + 1) ∧ fs_cd L p < 65536 ∧ L.getD p 0 = fs_cd L p) := by
  have h1 := hu _ (gd_mem (d := 0) hp)
  by_cases c : fs_hl L p
  · left
    have c1 := fn_hi.mp c.1
    have c2 := fn_lo.mp c.2.2
    have e : fs_cd L p = 65536 + (L.getD p 0 - 55296) * 1024 + (L.getD (p + 1) 0 - 56320) := if_pos c
    exact ⟨fun q => (q.resolve_left (by omega)) c, by omega, c.2.1, by omega, by omega⟩
  · right
    have e : fs_cd L p = L.getD p 0 := if_neg c
    exact ⟨Or.inr c, by omega, e.symm⟩
theorem fd_5 {L : List Int} {p : Nat} (h : ¬ fs_bg L p) : fs_bg L (p + 1) := by
  refine Or.inr (fun q => ?_)
  have q1 := fn_hi.mp q.1
  refine h (Or.inr (fun r => ?_))
  by_cases p0 : p = 0
  · exact h (Or.inl p0)
  · have q2 := fn_lo.mp r.2.2
    rw [show p - 1 + 1 = p by omega] at q2
    rw [show p + 1 - 1 = p by omega] at q1
    omega
theorem fd_6 {L : List Int} : fs_bg L L.length := by
  by_cases p0 : L.length = 0
  · exact Or.inl p0
  · exact Or.inr (fun q => by have := q.2.1; omega)

set_option maxRecDepth 100000 in
theorem f_X4_standsAt {w : sg_W} {Q : sg_O → sg_H → Prop} {h : sg_H} (g : sg_G w) {d : Nat} (hd : 3 ≤ d) {B a1 : Nat} (hx : ck_X h B) (L1 : ck_L B a1 1) {L : List Int} (kk : cf_l h a1 = L) {p c : Int} (p0 : 0 ≤ p) (c0 : 0 ≤ c ∧ c ≤ 1114111) (hs : (c < 65536 ∧ p < (L.length : Int) ∧ L.getD p.toNat 0 = c) ∨ (65536 ≤ c ∧ p + 1 < (L.length : Int) ∧ L.getD p.toNat 0 = 55296 + (c - 65536) / 1024 ∧ L.getD (p + 1).toNat 0 = 56320 + (c - 65536) % 1024)) (hQ : ∀ z : Int, z = 1 → Q (.inl (some (sg_i z))) h) : sg_C w mi_X4_standsAt d 0 0 [sg_r a1, sg_i p, sg_i c] h Q := by
  refine sg_of pn_X4 (Nat.le_of_ble_eq_true rfl) ?_
  have y0 := ck_Y0 hx
  have l24 := cf_40 hx L1
  rw [kk] at l24
  have hc24 : ck_cap 1 = 24 := rfl
  refine sg_iload_n (pc := 0) (j := 2) (dc_X4_standsAt_0.1.1.1.1) rfl rfl ?_
  refine sg_cS1 (pc := 1) (d' := d - 1) (mc' := 0) (ms' := 0) g (dc_X4_standsAt_0.1.1.1.2) cb_X4_isWideCode ml_X4_23 ms_X4_isWideCode (Nat.le_of_ble_eq_true rfl) (by first | exact jl_d0 hd rfl | omega) (by first | exact Nat.le_of_ble_eq_true rfl | omega) (by first | exact Nat.le_of_ble_eq_true rfl | omega) ?_
  refine s_X4_isWideCode g (by first | exact jl_d1 hd rfl | omega) (fun z1 h1 b1 => sg_K1 ?_)
  (try simp only [fn_wide] at h1)
  refine sg_if_ne (pc := 4) (tgt := 22) (dc_X4_standsAt_0.1.1.2.1) (by decide) (fun c4 => ?_) (fun c4 => ?_)
  · refine sg_aload_n (pc := 22) (j := 0) (dc_X4_standsAt_0.2.2.1.1) rfl rfl ?_
    refine sg_iload_n (pc := 23) (j := 1) (dc_X4_standsAt_0.2.2.1.2) rfl rfl ?_
    refine sg_cE1 (pc := 24) (d' := d - 1) (mc' := 0) (ms' := 0) 3 g (dc_X4_standsAt_0.2.2.2.1) cb_X0_get ml_X4_39 mn_X0_get rfl mv_X0_get (Nat.le_of_ble_eq_true rfl) (ck_lc (by assumption) (by first | assumption | exact ck_rev)) (Nat.le_of_ble_eq_true rfl) (by first | exact jl_d0 hd rfl | omega) (by first | exact Nat.le_of_ble_eq_true rfl | omega) (by first | exact Nat.le_of_ble_eq_true rfl | omega) ?_
    refine f_X0_get g (by first | exact jl_d1 hd rfl | omega) (by assumption) L1 (fun z24 e24 v24 => sg_K1 ?_)
    rw [kk] at e24
    rw [kk] at v24
    try rw [fa_tg (by omega) (by omega)] at e24
    have hs1 : p + 1 < (L.length : Int) ∧ L.getD p.toNat 0 = 55296 + (c - 65536) / 1024 ∧ L.getD (p + 1).toNat 0 = 56320 + (c - 65536) % 1024 := by rcases hs with s | s <;> omega
    rw [gg_in (by omega) (by omega)] at e24
    refine sg_iload_n (pc := 27) (j := 2) (dc_X4_standsAt_0.2.2.2.2) rfl rfl ?_
    refine sg_cS1 (pc := 28) (d' := d - 1) (mc' := 0) (ms' := 0) g (dc_X4_standsAt_28.1.1.1.1) cb_X4_highOf ml_X4_26 ms_X4_highOf (Nat.le_of_ble_eq_true rfl) (by first | exact jl_d0 hd rfl | omega) (by first | exact Nat.le_of_ble_eq_true rfl | omega) (by first | exact Nat.le_of_ble_eq_true rfl | omega) ?_
    refine s_X4_highOf g (by first | exact jl_d1 hd rfl | omega) (fun z28 h28 => sg_K1 ?_)
    refine sg_icmp_ne (pc := 31) (tgt := 52) (dc_X4_standsAt_28.1.1.1.2) (by decide) (fun c31 => ?_) (fun c31 => ?_)
    · refine sg_iconst (pc := 52) (z := 0) (dc_X4_standsAt_28.2.2.1.1) (by decide) ?_
      refine sg_zret (pc := 53) (dc_X4_standsAt_28.2.2.1.2) rfl (by first | exact Or.inl rfl | exact Or.inr rfl | omega | assumption) (by first | exact Nat.le_of_ble_eq_true rfl | omega) (by first | exact Nat.le_of_ble_eq_true rfl | omega) ?_
      first
        | exact hQ _ rfl
        | (exfalso; omega)
        | (exfalso; have := h28 (by omega); omega)
        | (exfalso; have := h42 (by omega); omega)
    · refine sg_aload_n (pc := 34) (j := 0) (dc_X4_standsAt_28.1.1.2.1) rfl rfl ?_
      refine sg_iload_n (pc := 35) (j := 1) (dc_X4_standsAt_28.1.1.2.2) rfl rfl ?_
      refine sg_iconst (pc := 36) (z := 1) (dc_X4_standsAt_28.1.2.1.1) (by decide) ?_
      first | refine sg_iaddB (pc := 37) (dc_X4_standsAt_28.1.2.1.2) (by omega) (by omega) ?_ | refine sg_iadd (pc := 37) (dc_X4_standsAt_28.1.2.1.2) ?_
      refine sg_cE1 (pc := 38) (d' := d - 1) (mc' := 0) (ms' := 0) 3 g (dc_X4_standsAt_28.1.2.2.1) cb_X0_get ml_X4_39 mn_X0_get rfl mv_X0_get (Nat.le_of_ble_eq_true rfl) (ck_lc (by assumption) (by first | assumption | exact ck_rev)) (Nat.le_of_ble_eq_true rfl) (by first | exact jl_d0 hd rfl | omega) (by first | exact Nat.le_of_ble_eq_true rfl | omega) (by first | exact Nat.le_of_ble_eq_true rfl | omega) ?_
      refine f_X0_get g (by first | exact jl_d1 hd rfl | omega) (by assumption) L1 (fun z38 e38 v38 => sg_K1 ?_)
      rw [kk] at e38
      rw [kk] at v38
      try rw [fa_tg (by omega) (by omega)] at e38
      rw [gg_in (by omega) (by omega)] at e38
      refine sg_iload_n (pc := 41) (j := 2) (dc_X4_standsAt_28.1.2.2.2) rfl rfl ?_
      refine sg_cS1 (pc := 42) (d' := d - 1) (mc' := 0) (ms' := 0) g (dc_X4_standsAt_28.2.1.1.1) cb_X4_lowOf ml_X4_36 ms_X4_lowOf (Nat.le_of_ble_eq_true rfl) (by first | exact jl_d0 hd rfl | omega) (by first | exact Nat.le_of_ble_eq_true rfl | omega) (by first | exact Nat.le_of_ble_eq_true rfl | omega) ?_
      refine s_X4_lowOf g (by first | exact jl_d1 hd rfl | omega) (fun z42 h42 => sg_K1 ?_)
      refine sg_icmp_ne (pc := 45) (tgt := 52) (dc_X4_standsAt_28.2.1.1.2) (by decide) (fun c45 => ?_) (fun c45 => ?_)
      · refine sg_iconst (pc := 52) (z := 0) (dc_X4_standsAt_28.2.2.1.1) (by decide) ?_
        refine sg_zret (pc := 53) (dc_X4_standsAt_28.2.2.1.2) rfl (by first | exact Or.inl rfl | exact Or.inr rfl | omega | assumption) (by first | exact Nat.le_of_ble_eq_true rfl | omega) (by first | exact Nat.le_of_ble_eq_true rfl | omega) ?_
        first
          | exact hQ _ rfl
          | (exfalso; omega)
          | (exfalso; have := h28 (by omega); omega)
          | (exfalso; have := h42 (by omega); omega)
      · refine sg_iconst (pc := 48) (z := 1) (dc_X4_standsAt_28.2.1.2.1) (by decide) ?_
        refine sg_goto (pc := 49) (tgt := 53) (dc_X4_standsAt_28.2.1.2.2) (by decide) ?_
        refine sg_zret (pc := 53) (dc_X4_standsAt_28.2.2.1.2) rfl (by first | exact Or.inl rfl | exact Or.inr rfl | omega | assumption) (by first | exact Nat.le_of_ble_eq_true rfl | omega) (by first | exact Nat.le_of_ble_eq_true rfl | omega) ?_
        first
          | exact hQ _ rfl
          | (exfalso; omega)
          | (exfalso; have := h28 (by omega); omega)
          | (exfalso; have := h42 (by omega); omega)
  · refine sg_aload_n (pc := 7) (j := 0) (dc_X4_standsAt_0.1.1.2.2) rfl rfl ?_
    refine sg_iload_n (pc := 8) (j := 1) (dc_X4_standsAt_0.1.2.1.1) rfl rfl ?_
    refine sg_cE1 (pc := 9) (d' := d - 1) (mc' := 0) (ms' := 0) 3 g (dc_X4_standsAt_0.1.2.1.2) cb_X0_get ml_X4_39 mn_X0_get rfl mv_X0_get (Nat.le_of_ble_eq_true rfl) (ck_lc (by assumption) (by first | assumption | exact ck_rev)) (Nat.le_of_ble_eq_true rfl) (by first | exact jl_d0 hd rfl | omega) (by first | exact Nat.le_of_ble_eq_true rfl | omega) (by first | exact Nat.le_of_ble_eq_true rfl | omega) ?_
    refine f_X0_get g (by first | exact jl_d1 hd rfl | omega) (by assumption) L1 (fun z9 e9 v9 => sg_K1 ?_)
    rw [kk] at e9
    rw [kk] at v9
    try rw [fa_tg (by omega) (by omega)] at e9
    have hs1 : p < (L.length : Int) ∧ L.getD p.toNat 0 = c := by rcases hs with s | s <;> omega
    rw [gg_in (by omega) (by omega)] at e9
    refine sg_iload_n (pc := 12) (j := 2) (dc_X4_standsAt_0.1.2.2.1) rfl rfl ?_
    refine sg_icmp_ne (pc := 13) (tgt := 20) (dc_X4_standsAt_0.1.2.2.2) (by decide) (fun c13 => ?_) (fun c13 => ?_)
    · refine sg_iconst (pc := 20) (z := 0) (dc_X4_standsAt_0.2.1.2.1) (by decide) ?_
      refine sg_zret (pc := 21) (dc_X4_standsAt_0.2.1.2.2) rfl (by first | exact Or.inl rfl | exact Or.inr rfl | omega | assumption) (by first | exact Nat.le_of_ble_eq_true rfl | omega) (by first | exact Nat.le_of_ble_eq_true rfl | omega) ?_
      first
        | exact hQ _ rfl
        | (exfalso; omega)
        | (exfalso; have := h28 (by omega); omega)
        | (exfalso; have := h42 (by omega); omega)
    · refine sg_iconst (pc := 16) (z := 1) (dc_X4_standsAt_0.2.1.1.1) (by decide) ?_
      refine sg_goto (pc := 17) (tgt := 21) (dc_X4_standsAt_0.2.1.1.2) (by decide) ?_
      refine sg_zret (pc := 21) (dc_X4_standsAt_0.2.1.2.2) rfl (by first | exact Or.inl rfl | exact Or.inr rfl | omega | assumption) (by first | exact Nat.le_of_ble_eq_true rfl | omega) (by first | exact Nat.le_of_ble_eq_true rfl | omega) ?_
      first
        | exact hQ _ rfl
        | (exfalso; omega)
        | (exfalso; have := h28 (by omega); omega)
        | (exfalso; have := h42 (by omega); omega)

set_option maxRecDepth 100000 in
theorem f_X4_areSentAgain {w : sg_W} {Q : sg_O → sg_H → Prop} {h : sg_H} (g : sg_G w) {d : Nat} (hd : 5 ≤ d) {B a1 : Nat} (hx : ck_X h B) (L1 : ck_L B a1 1) {L : List Int} (kk : cf_l h a1 = L) (hu : ∀ z ∈ L, 0 ≤ z ∧ z ≤ 65535) (hQ : ∀ z : Int, z = 1 → Q (.inl (some (sg_i z))) h) : sg_C w mi_X4_areSentAgain d 0 0 [sg_r a1] h Q := by
  refine sg_of pn_X4 (Nat.le_of_ble_eq_true rfl) ?_
  have y0 := ck_Y0 hx
  have l24 := cf_40 hx L1
  rw [kk] at l24
  have hc24 : ck_cap 1 = 24 := rfl
  refine sg_iconst (pc := 0) (z := 0) (dc_X4_areSentAgain_0.1.1.1.1) (by decide) ?_
  refine sg_istore_n (pc := 1) (j := 1) (dc_X4_areSentAgain_0.1.1.1.2) rfl (by decide) ?_
  refine sg_iconst (pc := 2) (z := 0) (dc_X4_areSentAgain_0.1.1.2.1) (by decide) ?_
  refine sg_istore_n (pc := 3) (j := 2) (dc_X4_areSentAgain_0.1.1.2.2) rfl (by decide) ?_
  have loop4 : ∀ (N : Nat) (p s : Int), (0 ≤ p ∧ p ≤ (L.length : Int)) → (jk_P ((fs_bg L p.toNat ∧ s = p) ∨ (¬ fs_bg L p.toNat ∧ s = p + 1))) → ((L.length : Int) - p).toNat < N → sg_R w mi_X4_areSentAgain d 0 0 Q 4 [(2, sg_i p), (1, sg_i s), (0, sg_r a1)] [] h 0 0 := by
    intro N
    induction N with
    | zero => intro p s p0 s0 hm; exact absurd hm (Nat.not_lt_zero _)
    | succ N ih =>
      intro p s p0 s0 hm
      refine sg_iload_n (pc := 4) (j := 2) (dc_X4_areSentAgain_0.1.2.1.1) rfl rfl ?_
      refine sg_aload_n (pc := 5) (j := 0) (dc_X4_areSentAgain_0.1.2.1.2) rfl rfl ?_
      refine sg_cE0 (pc := 6) (d' := d - 1) (mc' := 0) (ms' := 0) 3 g (dc_X4_areSentAgain_0.1.2.2.1) cb_X0_size ml_X4_46 mn_X0_size rfl mv_X0_size (Nat.le_of_ble_eq_true rfl) (ck_lc (by assumption) (by first | assumption | exact ck_rev)) (Nat.le_of_ble_eq_true rfl) (by first | exact jl_d0 hd rfl | omega) (by first | exact Nat.le_of_ble_eq_true rfl | omega) (by first | exact Nat.le_of_ble_eq_true rfl | omega) ?_
      refine f_X0_size g (by first | exact jl_d1 hd rfl | omega) (by assumption) L1 (fun z6 e6 l06 u6 => sg_K1 ?_)
      rw [kk] at e6
      try rw [fa_tlen] at e6
      refine sg_icmp_ge (pc := 9) (tgt := 50) (dc_X4_areSentAgain_0.1.2.2.2) (by decide) (fun c9 => ?_) (fun c9 => ?_)
      · refine sg_iload_n (pc := 50) (j := 1) (dc_X4_areSentAgain_26.2.2.2.1) rfl rfl ?_
        refine sg_aload_n (pc := 51) (j := 0) (dc_X4_areSentAgain_26.2.2.2.2) rfl rfl ?_
        refine sg_cE0 (pc := 52) (d' := d - 1) (mc' := 0) (ms' := 0) 3 g (dc_X4_areSentAgain_52.1.1.1) cb_X0_size ml_X4_46 mn_X0_size rfl mv_X0_size (Nat.le_of_ble_eq_true rfl) (ck_lc (by assumption) (by first | assumption | exact ck_rev)) (Nat.le_of_ble_eq_true rfl) (by first | exact jl_d0 hd rfl | omega) (by first | exact Nat.le_of_ble_eq_true rfl | omega) (by first | exact Nat.le_of_ble_eq_true rfl | omega) ?_
        refine f_X0_size g (by first | exact jl_d1 hd rfl | omega) (by assumption) L1 (fun z52 e52 l052 u52 => sg_K1 ?_)
        rw [kk] at e52
        try rw [fa_tlen] at e52
        refine sg_icmp_ne (pc := 55) (tgt := 62) (dc_X4_areSentAgain_52.1.1.2) (by decide) (fun c55 => ?_) (fun c55 => ?_)
        · refine sg_iconst (pc := 62) (z := 0) (dc_X4_areSentAgain_52.2.1.1) (by decide) ?_
          refine sg_zret (pc := 63) (dc_X4_areSentAgain_52.2.1.2) rfl (by first | exact Or.inl rfl | exact Or.inr rfl | omega | assumption) (by first | exact Nat.le_of_ble_eq_true rfl | omega) (by first | exact Nat.le_of_ble_eq_true rfl | omega) ?_
          first
            | exact hQ _ rfl
            | (exfalso; rcases s0 with q | q
               · have := q.2; omega
               · exact q.1 (by rw [show p.toNat = L.length by omega]; exact fd_6))
        · refine sg_iconst (pc := 58) (z := 1) (dc_X4_areSentAgain_52.1.2.1) (by decide) ?_
          refine sg_goto (pc := 59) (tgt := 63) (dc_X4_areSentAgain_52.1.2.2) (by decide) ?_
          refine sg_zret (pc := 63) (dc_X4_areSentAgain_52.2.1.2) rfl (by first | exact Or.inl rfl | exact Or.inr rfl | omega | assumption) (by first | exact Nat.le_of_ble_eq_true rfl | omega) (by first | exact Nat.le_of_ble_eq_true rfl | omega) ?_
          first
            | exact hQ _ rfl
            | (exfalso; rcases s0 with q | q
               · have := q.2; omega
               · exact q.1 (by rw [show p.toNat = L.length by omega]; exact fd_6))
      · refine sg_aload_n (pc := 12) (j := 0) (dc_X4_areSentAgain_0.2.1.1.1) rfl rfl ?_
        refine sg_iload_n (pc := 13) (j := 2) (dc_X4_areSentAgain_0.2.1.1.2) rfl rfl ?_
        refine sg_cS2 (pc := 14) (d' := d - 1) (mc' := 0) (ms' := 0) g (dc_X4_areSentAgain_0.2.1.2.1) cb_X4_isCodeBegin ml_X4_50 ms_X4_isCodeBegin (Nat.le_of_ble_eq_true rfl) (by first | exact jl_d0 hd rfl | omega) (by first | exact Nat.le_of_ble_eq_true rfl | omega) (by first | exact Nat.le_of_ble_eq_true rfl | omega) ?_
        refine f_X4_isCodeBegin g (by first | exact jl_d1 hd rfl | omega) (by assumption) L1 kk (by omega) (by omega) (fun z14 b14 => sg_K1 ?_)
        refine sg_if_eq (pc := 17) (tgt := 44) (dc_X4_areSentAgain_0.2.1.2.2) (by decide) (fun c17 => ?_) (fun c17 => ?_)
        · have s9 : jk_P ((fs_bg L (p + 1).toNat ∧ s = p + 1) ∨ (¬ fs_bg L (p + 1).toNat ∧ s = p + 1 + 1)) := by
            have hb : ¬ fs_bg L p.toNat := by
              rcases b14 with b | b
              · exact b.2
              · exact absurd b.1 (by omega)
            rcases s0 with q | q
            · exact absurd q.1 hb
            · exact Or.inl ⟨by rw [show (p + 1).toNat = p.toNat + 1 by omega]; exact fd_5 hb, q.2⟩
          first | refine sg_iincB (pc := 44) (dc_X4_areSentAgain_26.2.2.1.1) rfl (by decide) (by decide) (by omega) (by omega) ?_ | refine sg_iinc (pc := 44) (dc_X4_areSentAgain_26.2.2.1.1) rfl (by decide) (by decide) ?_
          refine sg_goto (pc := 47) (tgt := 4) (dc_X4_areSentAgain_26.2.2.1.2) (by decide) ?_
          refine sg_lsub (lv' := [(2, _), (1, _), (0, _)]) ⟨rfl, rfl, rfl, trivial⟩ ?_
          exact ih _ _ (by omega) s9 (by first | exact jl_m1 hm (by omega) | exact jl_m2 hm (by omega) | omega)
        · have hs : s = p := by
            rcases s0 with q | q
            · exact q.2
            · rcases b14 with b | b
              · exact absurd b.1 (by omega)
              · exact absurd b.2 q.1
          refine sg_aload_n (pc := 20) (j := 0) (dc_X4_areSentAgain_0.2.2.1.1) rfl rfl ?_
          refine sg_iload_n (pc := 21) (j := 2) (dc_X4_areSentAgain_0.2.2.1.2) rfl rfl ?_
          refine sg_cS2 (pc := 22) (d' := d - 1) (mc' := 0) (ms' := 0) g (dc_X4_areSentAgain_0.2.2.2.1) cb_X4_codeFrom ml_X4_57 ms_X4_codeFrom (Nat.le_of_ble_eq_true rfl) (by first | exact jl_d0 hd rfl | omega) (by first | exact Nat.le_of_ble_eq_true rfl | omega) (by first | exact Nat.le_of_ble_eq_true rfl | omega) ?_
          refine f_X4_codeFrom g (by first | exact jl_d1 hd rfl | omega) (by assumption) L1 kk hu (by omega) (by omega) (fun z22 e22 => sg_K1 ?_)
          have r22 := fs_cdr hu (p := p.toNat) (by omega)
          rw [← e22] at r22
          refine sg_istore_n (pc := 25) (j := 3) (dc_X4_areSentAgain_0.2.2.2.2) rfl (by decide) ?_
          have fd := fd_4 hu (p := p.toNat) (by omega)
          rw [← e22] at fd
          have hst : (z22 < 65536 ∧ s < (L.length : Int) ∧ L.getD s.toNat 0 = z22) ∨ (65536 ≤ z22 ∧ s + 1 < (L.length : Int) ∧ L.getD s.toNat 0 = 55296 + (z22 - 65536) / 1024 ∧ L.getD (s + 1).toNat 0 = 56320 + (z22 - 65536) % 1024) := by
            rw [hs]
            rcases fd with ⟨-, f1, f2, f3, f4⟩ | ⟨-, f1, f2⟩
            · exact Or.inr ⟨f1, by omega, f3, by rw [show (p + 1).toNat = p.toNat + 1 by omega]; exact f4⟩
            · exact Or.inl ⟨f1, by omega, f2⟩
          refine sg_aload_n (pc := 26) (j := 0) (dc_X4_areSentAgain_26.1.1.1.1) rfl rfl ?_
          refine sg_iload_n (pc := 27) (j := 1) (dc_X4_areSentAgain_26.1.1.1.2) rfl rfl ?_
          refine sg_iload_n (pc := 28) (j := 3) (dc_X4_areSentAgain_26.1.1.2.1) rfl rfl ?_
          refine sg_cS3 (pc := 29) (d' := d - 1) (mc' := 0) (ms' := 0) g (dc_X4_areSentAgain_26.1.1.2.2) cb_X4_standsAt ml_X4_68 ms_X4_standsAt (Nat.le_of_ble_eq_true rfl) (by first | exact jl_d0 hd rfl | omega) (by first | exact Nat.le_of_ble_eq_true rfl | omega) (by first | exact Nat.le_of_ble_eq_true rfl | omega) ?_
          refine f_X4_standsAt g (by first | exact jl_d1 hd rfl | omega) (by assumption) L1 kk (by omega) (by omega) hst (fun z29 e29 => sg_K1 ?_)
          refine sg_if_ne (pc := 32) (tgt := 37) (dc_X4_areSentAgain_26.1.2.1.1) (by decide) (fun c32 => ?_) (fun c32 => ?_)
          · refine sg_iload_n (pc := 37) (j := 1) (dc_X4_areSentAgain_26.1.2.2.2) rfl rfl ?_
            refine sg_iload_n (pc := 38) (j := 3) (dc_X4_areSentAgain_26.2.1.1.1) rfl rfl ?_
            refine sg_cS1 (pc := 39) (d' := d - 1) (mc' := 0) (ms' := 0) g (dc_X4_areSentAgain_26.2.1.1.2) cb_X4_unitsOf ml_X4_72 ms_X4_unitsOf (Nat.le_of_ble_eq_true rfl) (by first | exact jl_d0 hd rfl | omega) (by first | exact Nat.le_of_ble_eq_true rfl | omega) (by first | exact Nat.le_of_ble_eq_true rfl | omega) ?_
            refine s_X4_unitsOf g (by first | exact jl_d1 hd rfl | omega) (fun z39 h39 => sg_K1 ?_)
            (try simp only [fn_units] at h39)
            first | refine sg_iaddB (pc := 42) (dc_X4_areSentAgain_26.2.1.2.1) (by omega) (by omega) ?_ | refine sg_iadd (pc := 42) (dc_X4_areSentAgain_26.2.1.2.1) ?_
            refine sg_istore_n (pc := 43) (j := 1) (dc_X4_areSentAgain_26.2.1.2.2) rfl (by decide) ?_
            have s9 : jk_P ((fs_bg L (p + 1).toNat ∧ s + z39 = p + 1) ∨ (¬ fs_bg L (p + 1).toNat ∧ s + z39 = p + 1 + 1)) := by
              rw [show (p + 1).toNat = p.toNat + 1 by omega]
              rcases fd with f | f
              · exact Or.inr ⟨f.1, by have := f.2.1; omega⟩
              · exact Or.inl ⟨f.1, by have := f.2.1; omega⟩
            first | refine sg_iincB (pc := 44) (dc_X4_areSentAgain_26.2.2.1.1) rfl (by decide) (by decide) (by omega) (by omega) ?_ | refine sg_iinc (pc := 44) (dc_X4_areSentAgain_26.2.2.1.1) rfl (by decide) (by decide) ?_
            refine sg_goto (pc := 47) (tgt := 4) (dc_X4_areSentAgain_26.2.2.1.2) (by decide) ?_
            refine sg_lsub (lv' := [(2, _), (1, _), (0, _)]) ⟨rfl, rfl, rfl, trivial⟩ ?_
            exact ih _ _ (by omega) s9 (by first | exact jl_m1 hm (by omega) | exact jl_m2 hm (by omega) | omega)
          · refine sg_iconst (pc := 35) (z := 0) (dc_X4_areSentAgain_26.1.2.1.2) (by decide) ?_
            refine sg_zret (pc := 36) (dc_X4_areSentAgain_26.1.2.2.1) rfl (by first | exact Or.inl rfl | exact Or.inr rfl | omega | assumption) (by first | exact Nat.le_of_ble_eq_true rfl | omega) (by first | exact Nat.le_of_ble_eq_true rfl | omega) ?_
            first
              | exact hQ _ rfl
              | (exfalso; rcases s0 with q | q
                 · have := q.2; omega
                 · exact q.1 (by rw [show p.toNat = L.length by omega]; exact fd_6))
  refine sg_lsub (lv' := [(2, _), (1, _), (0, _)]) ⟨rfl, rfl, rfl, trivial⟩ ?_
  exact loop4 _ _ _ (by omega) (Or.inl ⟨Or.inl rfl, rfl⟩) (Nat.lt_succ_self _)

set_option maxRecDepth 100000 in
theorem f_X5_isSoundRow {w : sg_W} {Q : sg_O → sg_H → Prop} {h : sg_H} (g : sg_G w) {d : Nat} (hd : 12 ≤ d) {B a1 : Nat} (hx : ck_X h B) (L1 : ck_L B a1 0) {L : List Int} (kk : cf_l h a1 = L) (hQ : ∀ z : Int, z = 1 → Q (.inl (some (sg_i z))) h) : sg_C w mi_X5_isSoundRow d 0 0 [sg_r a1] h Q := by
  refine sg_of pn_X5 (Nat.le_of_ble_eq_true rfl) ?_
  have y0 := ck_Y0 hx
  have l40 := cf_40 hx L1
  rw [kk] at l40
  have hc40 : ck_cap 0 = 40 := rfl
  refine sg_aload_n (pc := 0) (j := 0) (dc_X5_isSoundRow_0.1.1.1.1) rfl rfl ?_
  refine sg_cE0 (pc := 1) (d' := d - 1) (mc' := 0) (ms' := 0) 3 g (dc_X5_isSoundRow_0.1.1.1.2) cb_X0_size ml_X5_63 mn_X0_size rfl mv_X0_size (Nat.le_of_ble_eq_true rfl) (ck_lc (by assumption) (by first | assumption | exact ck_rev)) (Nat.le_of_ble_eq_true rfl) (by first | exact jl_d0 hd rfl | omega) (by first | exact Nat.le_of_ble_eq_true rfl | omega) (by first | exact Nat.le_of_ble_eq_true rfl | omega) ?_
  refine f_X0_size g (by first | exact jl_d1 hd rfl | omega) (by assumption) L1 (fun z1 e1 l01 u1 => sg_K1 ?_)
  rw [kk] at e1
  try rw [fa_tlen] at e1
  refine sg_bipush (pc := 4) (z := 40) (dc_X5_isSoundRow_0.1.1.2.1) (by decide) ?_
  refine sg_icmp_le (pc := 6) (tgt := 11) (dc_X5_isSoundRow_0.1.1.2.2) (by decide) (fun c6 => ?_) (fun c6 => ?_)
  · refine sg_iconst (pc := 11) (z := 0) (dc_X5_isSoundRow_0.1.2.2.1) (by decide) ?_
    refine sg_istore_n (pc := 12) (j := 1) (dc_X5_isSoundRow_0.1.2.2.2) rfl (by decide) ?_
    have loop13 : ∀ (N : Nat) (p : Int), (0 ≤ p ∧ p ≤ (L.length : Int)) → ((L.length : Int) - p).toNat < N → sg_R w mi_X5_isSoundRow d 0 0 Q 13 [(1, sg_i p), (0, sg_r a1)] [] h 0 0 := by
      intro N
      induction N with
      | zero => intro p p0 hm; exact absurd hm (Nat.not_lt_zero _)
      | succ N ih =>
        intro p p0 hm
        refine sg_iload_n (pc := 13) (j := 1) (dc_X5_isSoundRow_0.2.1.1.1) rfl rfl ?_
        refine sg_aload_n (pc := 14) (j := 0) (dc_X5_isSoundRow_0.2.1.1.2) rfl rfl ?_
        refine sg_cE0 (pc := 15) (d' := d - 1) (mc' := 0) (ms' := 0) 3 g (dc_X5_isSoundRow_0.2.1.2.1) cb_X0_size ml_X5_63 mn_X0_size rfl mv_X0_size (Nat.le_of_ble_eq_true rfl) (ck_lc (by assumption) (by first | assumption | exact ck_rev)) (Nat.le_of_ble_eq_true rfl) (by first | exact jl_d0 hd rfl | omega) (by first | exact Nat.le_of_ble_eq_true rfl | omega) (by first | exact Nat.le_of_ble_eq_true rfl | omega) ?_
        refine f_X0_size g (by first | exact jl_d1 hd rfl | omega) (by assumption) L1 (fun z15 e15 l015 u15 => sg_K1 ?_)
        rw [kk] at e15
        try rw [fa_tlen] at e15
        refine sg_icmp_ge (pc := 18) (tgt := 40) (dc_X5_isSoundRow_0.2.1.2.2) (by decide) (fun c18 => ?_) (fun c18 => ?_)
        · refine sg_iconst (pc := 40) (z := 1) (dc_X5_isSoundRow_29.2.1.2) (by decide) ?_
          refine sg_zret (pc := 41) (dc_X5_isSoundRow_29.2.2.1) rfl (by first | exact Or.inl rfl | exact Or.inr rfl | omega | assumption) (by first | exact Nat.le_of_ble_eq_true rfl | omega) (by first | exact Nat.le_of_ble_eq_true rfl | omega) ?_
          first
            | exact hQ _ rfl
            | (exfalso; omega)
        · refine sg_aload_n (pc := 21) (j := 0) (dc_X5_isSoundRow_0.2.2.1.1) rfl rfl ?_
          refine sg_iload_n (pc := 22) (j := 1) (dc_X5_isSoundRow_0.2.2.1.2) rfl rfl ?_
          refine sg_cE1 (pc := 23) (d' := d - 1) (mc' := 0) (ms' := 0) 3 g (dc_X5_isSoundRow_0.2.2.2.1) cb_X0_get ml_X5_75 mn_X0_get rfl mv_X0_get (Nat.le_of_ble_eq_true rfl) (ck_lc (by assumption) (by first | assumption | exact ck_rev)) (Nat.le_of_ble_eq_true rfl) (by first | exact jl_d0 hd rfl | omega) (by first | exact Nat.le_of_ble_eq_true rfl | omega) (by first | exact Nat.le_of_ble_eq_true rfl | omega) ?_
          refine f_X0_get g (by first | exact jl_d1 hd rfl | omega) (by assumption) L1 (fun z23 e23 v23 => sg_K1 ?_)
          rw [kk] at e23
          rw [kk] at v23
          try rw [fa_tg (by omega) (by omega)] at e23
          rw [gg_in (by omega) (by omega)] at e23
          subst e23
          refine sg_cS1 (pc := 26) (d' := d - 1) (mc' := 0) (ms' := 0) g (dc_X5_isSoundRow_0.2.2.2.2) cb_X2_isSoundSign ml_X5_336 ms_X2_isSoundSign (Nat.le_of_ble_eq_true rfl) (by first | exact jl_d0 hd rfl | omega) (by first | exact Nat.le_of_ble_eq_true rfl | omega) (by first | exact Nat.le_of_ble_eq_true rfl | omega) ?_
          refine f_X2_isSoundSign g (by first | exact jl_d1 hd rfl | omega) (fun z26 e26 => sg_K1 ?_)
          refine sg_if_ne (pc := 29) (tgt := 34) (dc_X5_isSoundRow_29.1.1.1) (by decide) (fun c29 => ?_) (fun c29 => ?_)
          · first | refine sg_iincB (pc := 34) (dc_X5_isSoundRow_29.1.2.2) rfl (by decide) (by decide) (by omega) (by omega) ?_ | refine sg_iinc (pc := 34) (dc_X5_isSoundRow_29.1.2.2) rfl (by decide) (by decide) ?_
            refine sg_goto (pc := 37) (tgt := 13) (dc_X5_isSoundRow_29.2.1.1) (by decide) ?_
            refine sg_lsub (lv' := [(1, _), (0, _)]) ⟨rfl, rfl, trivial⟩ ?_
            exact ih _ (by omega) (by first | exact jl_m1 hm (by omega) | exact jl_m2 hm (by omega) | omega)
          · refine sg_iconst (pc := 32) (z := 0) (dc_X5_isSoundRow_29.1.1.2) (by decide) ?_
            refine sg_zret (pc := 33) (dc_X5_isSoundRow_29.1.2.1) rfl (by first | exact Or.inl rfl | exact Or.inr rfl | omega | assumption) (by first | exact Nat.le_of_ble_eq_true rfl | omega) (by first | exact Nat.le_of_ble_eq_true rfl | omega) ?_
            first
              | exact hQ _ rfl
              | (exfalso; omega)
    refine sg_lsub (lv' := [(1, _), (0, _)]) ⟨rfl, rfl, trivial⟩ ?_
    exact loop13 _ _ (by omega) (Nat.lt_succ_self _)
  · refine sg_iconst (pc := 9) (z := 0) (dc_X5_isSoundRow_0.1.2.1.1) (by decide) ?_
    refine sg_zret (pc := 10) (dc_X5_isSoundRow_0.1.2.1.2) rfl (by first | exact Or.inl rfl | exact Or.inr rfl | omega | assumption) (by first | exact Nat.le_of_ble_eq_true rfl | omega) (by first | exact Nat.le_of_ble_eq_true rfl | omega) ?_
    first
      | exact hQ _ rfl
      | (exfalso; omega)

set_option maxRecDepth 100000 in
theorem f_X5_isSoundTrack {w : sg_W} {Q : sg_O → sg_H → Prop} {h : sg_H} (g : sg_G w) {d : Nat} (hd : 12 ≤ d) {B a1 : Nat} (hx : ck_X h B) (L1 : ck_L B a1 1) {L : List Int} (kk : cf_l h a1 = L) (hu : ∀ z ∈ L, 0 ≤ z ∧ z ≤ 65535) (hQ : ∀ z : Int, z = 1 → Q (.inl (some (sg_i z))) h) : sg_C w mi_X5_isSoundTrack d 0 0 [sg_r a1] h Q := by
  refine sg_of pn_X5 (Nat.le_of_ble_eq_true rfl) ?_
  have y0 := ck_Y0 hx
  have l24 := cf_40 hx L1
  rw [kk] at l24
  have hc24 : ck_cap 1 = 24 := rfl
  refine sg_aload_n (pc := 0) (j := 0) (dc_X5_isSoundTrack_0.1.1.1.1) rfl rfl ?_
  refine sg_cE0 (pc := 1) (d' := d - 1) (mc' := 0) (ms' := 0) 3 g (dc_X5_isSoundTrack_0.1.1.1.2) cb_X0_size ml_X5_63 mn_X0_size rfl mv_X0_size (Nat.le_of_ble_eq_true rfl) (ck_lc (by assumption) (by first | assumption | exact ck_rev)) (Nat.le_of_ble_eq_true rfl) (by first | exact jl_d0 hd rfl | omega) (by first | exact Nat.le_of_ble_eq_true rfl | omega) (by first | exact Nat.le_of_ble_eq_true rfl | omega) ?_
  refine f_X0_size g (by first | exact jl_d1 hd rfl | omega) (by assumption) L1 (fun z1 e1 l01 u1 => sg_K1 ?_)
  rw [kk] at e1
  try rw [fa_tlen] at e1
  refine sg_bipush (pc := 4) (z := 24) (dc_X5_isSoundTrack_0.1.1.2.1) (by decide) ?_
  refine sg_icmp_gt (pc := 6) (tgt := 20) (dc_X5_isSoundTrack_0.1.1.2.2) (by decide) (fun c6 => ?_) (fun c6 => ?_)
  · refine sg_iconst (pc := 20) (z := 0) (dc_X5_isSoundTrack_0.2.1.1.2) (by decide) ?_
    refine sg_zret (pc := 21) (dc_X5_isSoundTrack_0.2.1.2.1) rfl (by first | exact Or.inl rfl | exact Or.inr rfl | omega | assumption) (by first | exact Nat.le_of_ble_eq_true rfl | omega) (by first | exact Nat.le_of_ble_eq_true rfl | omega) ?_
    first
      | exact hQ _ rfl
      | (exfalso; omega)
  · refine sg_aload_n (pc := 9) (j := 0) (dc_X5_isSoundTrack_0.1.2.1.1) rfl rfl ?_
    refine sg_cS1 (pc := 10) (d' := d - 1) (mc' := 0) (ms' := 0) g (dc_X5_isSoundTrack_0.1.2.1.2) cb_X4_areSentAgain ml_X5_339 ms_X4_areSentAgain (Nat.le_of_ble_eq_true rfl) (by first | exact jl_d0 hd rfl | omega) (by first | exact Nat.le_of_ble_eq_true rfl | omega) (by first | exact Nat.le_of_ble_eq_true rfl | omega) ?_
    refine f_X4_areSentAgain g (by first | exact jl_d1 hd rfl | omega) (by assumption) L1 kk hu (fun z10 e10 => sg_K1 ?_)
    refine sg_if_eq (pc := 13) (tgt := 20) (dc_X5_isSoundTrack_0.1.2.2.1) (by decide) (fun c13 => ?_) (fun c13 => ?_)
    · refine sg_iconst (pc := 20) (z := 0) (dc_X5_isSoundTrack_0.2.1.1.2) (by decide) ?_
      refine sg_zret (pc := 21) (dc_X5_isSoundTrack_0.2.1.2.1) rfl (by first | exact Or.inl rfl | exact Or.inr rfl | omega | assumption) (by first | exact Nat.le_of_ble_eq_true rfl | omega) (by first | exact Nat.le_of_ble_eq_true rfl | omega) ?_
      first
        | exact hQ _ rfl
        | (exfalso; omega)
    · refine sg_iconst (pc := 16) (z := 1) (dc_X5_isSoundTrack_0.1.2.2.2) (by decide) ?_
      refine sg_goto (pc := 17) (tgt := 21) (dc_X5_isSoundTrack_0.2.1.1.1) (by decide) ?_
      refine sg_zret (pc := 21) (dc_X5_isSoundTrack_0.2.1.2.1) rfl (by first | exact Or.inl rfl | exact Or.inr rfl | omega | assumption) (by first | exact Nat.le_of_ble_eq_true rfl | omega) (by first | exact Nat.le_of_ble_eq_true rfl | omega) ?_
      first
        | exact hQ _ rfl
        | (exfalso; omega)

set_option maxRecDepth 100000 in
theorem f_X5_isSound {w : sg_W} {Q : sg_O → sg_H → Prop} {h : sg_H} (g : sg_G w) {d : Nat} (hd : 14 ≤ d) {B : Nat} {A : fa_A} (hx : cf_X h B A) (ok : fa_ok A) (hQ : ∀ v : Int, v = 1 → Q (.inl (some (sg_i v))) h) : sg_C w mi_X5_isSound d 0 0 [sg_r B] h Q := by
  refine sg_of pn_X5 (Nat.le_of_ble_eq_true rfl) ?_
  obtain ⟨x0, ho, hS, hP, hK⟩ := id hx
  have y0 := ck_Y0 x0
  refine sg_iconst (pc := 0) (z := 0) (dc_X5_isSound_0.1.1.1.1) (by decide) ?_
  refine sg_istore_n (pc := 1) (j := 1) (dc_X5_isSound_0.1.1.1.2) rfl (by decide) ?_
  have loop2 : ∀ (N : Nat) (p : Int), (0 ≤ p ∧ p ≤ 4) → (4 - p).toNat < N → sg_R w mi_X5_isSound d 0 0 Q 2 [(1, sg_i p), (0, sg_r B)] [] h 0 0 := by
    intro N
    induction N with
    | zero => intro p p0 hm; exact absurd hm (Nat.not_lt_zero _)
    | succ N ih =>
      intro p p0 hm
      refine sg_iload_n (pc := 2) (j := 1) (dc_X5_isSound_0.1.1.2.1) rfl rfl ?_
      refine sg_iconst (pc := 3) (z := 4) (dc_X5_isSound_0.1.1.2.2) (by decide) ?_
      refine sg_icmp_ge (pc := 4) (tgt := 26) (dc_X5_isSound_0.1.2.1.1) (by decide) (fun c4 => ?_) (fun c4 => ?_)
      · refine sg_iconst (pc := 26) (z := 0) (dc_X5_isSound_0.2.2.2.1) (by decide) ?_
        refine sg_istore_n (pc := 27) (j := 1) (dc_X5_isSound_0.2.2.2.2) rfl (by decide) ?_
        have loop28 : ∀ (N : Nat) (p : Int), (0 ≤ p ∧ p ≤ 2) → (2 - p).toNat < N → sg_R w mi_X5_isSound d 0 0 Q 28 [(1, sg_i p), (0, sg_r B)] [] h 0 0 := by
          intro N
          induction N with
          | zero => intro p p0 hm; exact absurd hm (Nat.not_lt_zero _)
          | succ N ih =>
            intro p p0 hm
            refine sg_iload_n (pc := 28) (j := 1) (dc_X5_isSound_28.1.1.1.1) rfl rfl ?_
            refine sg_iconst (pc := 29) (z := 2) (dc_X5_isSound_28.1.1.1.2) (by decide) ?_
            refine sg_icmp_ge (pc := 30) (tgt := 52) (dc_X5_isSound_28.1.1.2.1) (by decide) (fun c30 => ?_) (fun c30 => ?_)
            · refine sg_iconst (pc := 52) (z := 1) (dc_X5_isSound_28.2.2.1.1) (by decide) ?_
              refine sg_zret (pc := 53) (dc_X5_isSound_28.2.2.1.2) rfl (by first | exact Or.inl rfl | exact Or.inr rfl | omega | assumption) (by first | exact Nat.le_of_ble_eq_true rfl | omega) (by first | exact Nat.le_of_ble_eq_true rfl | omega) ?_
              first
                | exact hQ _ rfl
                | (exfalso; omega)
            · obtain ⟨L, hL⟩ : ∃ L, fa_L A (4 + p.toNat) = L := ⟨_, rfl⟩
              refine sg_aload_n (pc := 33) (j := 0) (dc_X5_isSound_28.1.1.2.2) rfl rfl ?_
              refine sg_iload_n (pc := 34) (j := 1) (dc_X5_isSound_28.1.2.1.1) rfl rfl ?_
              refine sg_cE1 (pc := 35) (d' := d - 1) (mc' := 0) (ms' := 0) 6 g (dc_X5_isSound_28.1.2.1.2) cb_X5_trackOf ml_X5_151 mn_X5_trackOf rfl mv_X5_trackOf (Nat.le_of_ble_eq_true rfl) (ck_oc (by assumption)) (Nat.le_of_ble_eq_true rfl) (by first | exact jl_d0 hd rfl | omega) (by first | exact Nat.le_of_ble_eq_true rfl | omega) (by first | exact Nat.le_of_ble_eq_true rfl | omega) ?_
              refine f_X5_trackOf_N g (by first | exact jl_d1 hd rfl | omega) (by assumption) (by omega) (fun l35 r35 L35 => sg_K1 ?_)
              obtain ⟨a35, ea35⟩ : ∃ a, a = B + 1 + 3 + 2 * (4 + p.toNat) := ⟨_, rfl⟩
              rw [← ea35] at L35 ⊢
              have k35 : cf_l h a35 = L := by rw [ea35, cf_rl hx (by omega)]; exact hL
              have r435 := fa_trk ok (i := (4 + p.toNat)) (by omega) (by omega)
              rw [hL] at r435
              refine sg_cS1 (pc := 38) (d' := d - 1) (mc' := 0) (ms' := 0) g (dc_X5_isSound_28.1.2.2.1) cb_X5_isSoundTrack ml_X5_281 ms_X5_isSoundTrack (Nat.le_of_ble_eq_true rfl) (by first | exact jl_d0 hd rfl | omega) (by first | exact Nat.le_of_ble_eq_true rfl | omega) (by first | exact Nat.le_of_ble_eq_true rfl | omega) ?_
              refine f_X5_isSoundTrack g (by first | exact jl_d1 hd rfl | omega) (by assumption) L35 k35 r435.2 (fun z38 e38 => sg_K1 ?_)
              refine sg_if_ne (pc := 41) (tgt := 46) (dc_X5_isSound_28.1.2.2.2) (by decide) (fun c41 => ?_) (fun c41 => ?_)
              · first | refine sg_iincB (pc := 46) (dc_X5_isSound_28.2.1.2.1) rfl (by decide) (by decide) (by omega) (by omega) ?_ | refine sg_iinc (pc := 46) (dc_X5_isSound_28.2.1.2.1) rfl (by decide) (by decide) ?_
                refine sg_goto (pc := 49) (tgt := 28) (dc_X5_isSound_28.2.1.2.2) (by decide) ?_
                refine sg_lsub (lv' := [(1, _), (0, _)]) ⟨rfl, rfl, trivial⟩ ?_
                exact ih _ (by omega) (by first | exact jl_m1 hm (by omega) | exact jl_m2 hm (by omega) | omega)
              · refine sg_iconst (pc := 44) (z := 0) (dc_X5_isSound_28.2.1.1.1) (by decide) ?_
                refine sg_zret (pc := 45) (dc_X5_isSound_28.2.1.1.2) rfl (by first | exact Or.inl rfl | exact Or.inr rfl | omega | assumption) (by first | exact Nat.le_of_ble_eq_true rfl | omega) (by first | exact Nat.le_of_ble_eq_true rfl | omega) ?_
                first
                  | exact hQ _ rfl
                  | (exfalso; omega)
        refine sg_lsub (lv' := [(1, _), (0, _)]) ⟨rfl, rfl, trivial⟩ ?_
        exact loop28 _ _ (by omega) (Nat.lt_succ_self _)
      · obtain ⟨L, hL⟩ : ∃ L, fa_L A p.toNat = L := ⟨_, rfl⟩
        refine sg_aload_n (pc := 7) (j := 0) (dc_X5_isSound_0.1.2.1.2) rfl rfl ?_
        refine sg_iload_n (pc := 8) (j := 1) (dc_X5_isSound_0.1.2.2.1) rfl rfl ?_
        refine sg_cE1 (pc := 9) (d' := d - 1) (mc' := 0) (ms' := 0) 6 g (dc_X5_isSound_0.1.2.2.2) cb_X5_rowOf ml_X5_36 mn_X5_rowOf rfl mv_X5_rowOf (Nat.le_of_ble_eq_true rfl) (ck_oc (by assumption)) (Nat.le_of_ble_eq_true rfl) (by first | exact jl_d0 hd rfl | omega) (by first | exact Nat.le_of_ble_eq_true rfl | omega) (by first | exact Nat.le_of_ble_eq_true rfl | omega) ?_
        refine f_X5_rowOf_N g (by first | exact jl_d1 hd rfl | omega) (by assumption) (by omega) (fun l9 r9 L9 => sg_K1 ?_)
        obtain ⟨a9, ea9⟩ : ∃ a, a = B + 1 + 3 + 2 * p.toNat := ⟨_, rfl⟩
        rw [← ea9] at L9 ⊢
        have k9 : cf_l h a9 = L := by rw [ea9, cf_rl hx (by omega)]; exact hL
        have r49 := fa_row ok (i := p.toNat) (by omega)
        rw [hL] at r49
        refine sg_cS1 (pc := 12) (d' := d - 1) (mc' := 0) (ms' := 0) g (dc_X5_isSound_0.2.1.1.1) cb_X5_isSoundRow ml_X5_278 ms_X5_isSoundRow (Nat.le_of_ble_eq_true rfl) (by first | exact jl_d0 hd rfl | omega) (by first | exact Nat.le_of_ble_eq_true rfl | omega) (by first | exact Nat.le_of_ble_eq_true rfl | omega) ?_
        refine f_X5_isSoundRow g (by first | exact jl_d1 hd rfl | omega) (by assumption) L9 k9 (fun z12 e12 => sg_K1 ?_)
        refine sg_if_ne (pc := 15) (tgt := 20) (dc_X5_isSound_0.2.1.1.2) (by decide) (fun c15 => ?_) (fun c15 => ?_)
        · first | refine sg_iincB (pc := 20) (dc_X5_isSound_0.2.2.1.1) rfl (by decide) (by decide) (by omega) (by omega) ?_ | refine sg_iinc (pc := 20) (dc_X5_isSound_0.2.2.1.1) rfl (by decide) (by decide) ?_
          refine sg_goto (pc := 23) (tgt := 2) (dc_X5_isSound_0.2.2.1.2) (by decide) ?_
          refine sg_lsub (lv' := [(1, _), (0, _)]) ⟨rfl, rfl, trivial⟩ ?_
          exact ih _ (by omega) (by first | exact jl_m1 hm (by omega) | exact jl_m2 hm (by omega) | omega)
        · refine sg_iconst (pc := 18) (z := 0) (dc_X5_isSound_0.2.1.2.1) (by decide) ?_
          refine sg_zret (pc := 19) (dc_X5_isSound_0.2.1.2.2) rfl (by first | exact Or.inl rfl | exact Or.inr rfl | omega | assumption) (by first | exact Nat.le_of_ble_eq_true rfl | omega) (by first | exact Nat.le_of_ble_eq_true rfl | omega) ?_
          first
            | exact hQ _ rfl
            | (exfalso; omega)
  refine sg_lsub (lv' := [(1, _), (0, _)]) ⟨rfl, rfl, trivial⟩ ?_
  exact loop2 _ _ (by omega) (Nat.lt_succ_self _)

