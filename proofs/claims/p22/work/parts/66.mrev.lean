/-! contents: what stands in an array after a store, after another array was made -/
theorem md_vT {c c' : Nat} {h0 h : sg_H} {a n m : Nat} (x : md_A c h0 a n) (t : md_T c' h0 h m) : md_v h a = md_v h0 a := by
  funext i
  unfold md_v
  rw [t.2.1 a (Nat.ne_of_lt x.1)]
theorem md_astv {w : sg_W} {mi : sg_M} {d mc ms : Nat} {Q : sg_O → sg_H → Prop} {pc : Nat} {lv : List (Nat × sg_V)} {st : List sg_V} {h h0 : sg_H} {k n c N : Nat} {z x : Int} (hd : decode mi.2.1 pc = .ok (.iastore, 1)) (t : md_T c h0 h N) (hv : ck_v c x) (g0 : 0 ≤ z) (g1 : z < (N : Int)) (K : ∀ h' : sg_H, md_T c h0 h' N → (∀ k : Int, 0 ≤ k → md_v h' h0.1 k = if k = z then x else md_v h h0.1 k) → sg_R w mi d mc ms Q (pc + 1) lv st h' k n) : sg_R w mi d mc ms Q pc lv (sg_i x :: sg_i z :: sg_r h0.1 :: st) h k n := by
  obtain ⟨t1, t2, g2, zs, h2, h3, h4⟩ := t
  have hl : z.toNat < (zs.map sg_i).length := by rw [List.length_map]; omega
  refine sg_iast hd h4 g0 hl (K (h.1, sg_up h.2 h0.1 (100, (zs.map sg_i).set z.toNat (sg_i x))) ⟨t1, fun q hq => (sg_up_n hq).trans (t2 q hq), g2, zs.set z.toNat x, by simp [h2], fun y hy => ?_, ?_⟩ (fun j j0 => ?_))
  · rcases List.mem_or_eq_of_mem_set hy with q | rfl
    · exact h3 _ q
    · exact hv
  · rw [show ((h.1, sg_up h.2 h0.1 (100, (zs.map sg_i).set z.toNat (sg_i x))) : sg_H).2 h0.1 = _ from sg_up_s, List.map_set]
  · unfold md_v
    rw [show ((h.1, sg_up h.2 h0.1 (100, (zs.map sg_i).set z.toNat (sg_i x))) : sg_H).2 h0.1 = _ from sg_up_s, h4]
    simp only []
    by_cases q : j = z
    · subst q
      rw [if_pos rfl, List.getElem?_set_self hl]
    · rw [if_neg q, List.getElem?_set_ne (by omega)]
/-- how many units the first m codes are sent as -/
def jsum (v : Int → Int) : Nat → Int
  | 0 => 0
  | j + 1 => jsum v j + (if v j < 65536 then 1 else 2)
theorem jsum_congr {v u : Int → Int} : ∀ {m : Nat}, (∀ k : Int, 0 ≤ k → k < (m : Int) → v k = u k) → jsum v m = jsum u m
  | 0, _ => rfl
  | m + 1, h => by
    rw [jsum, jsum, jsum_congr (fun k k0 k1 => h k k0 (by omega)), h m (by omega) (by omega)]
theorem jsum_mono {v : Int → Int} (m : Nat) : ∀ j, jsum v m ≤ jsum v (m + j)
  | 0 => Int.le_refl _
  | j + 1 => by
    have h1 := jsum_mono (v := v) m j
    rw [show m + (j + 1) = (m + j) + 1 by omega, jsum]
    split <;> omega
set_option maxRecDepth 100000 in
theorem s_X7_codeOfW {w : sg_W} {Q : sg_O → sg_H → Prop} {h : sg_H} (g : sg_G w) {d : Nat} (hd : 5 ≤ d) {M : Nat} {trk p : Int} (hv : 0 ≤ trk ∧ trk < 2 ∧ 0 ≤ p ∧ p < ((md_n h (md_a h (md_r h M) (4 + trk)) : Nat) : Int)) (hx : md_M w h M) (hQ : ∀ v : Int, v = jcd (md_v h (md_a h (md_r h M) (4 + trk))) ((md_n h (md_a h (md_r h M) (4 + trk)) : Nat) : Int) p → 0 ≤ v → v ≤ 1114111 → (65536 ≤ v → p + 1 < ((md_n h (md_a h (md_r h M) (4 + trk)) : Nat) : Int)) → Q (.inl (some (sg_i v))) h) : sg_C w mi_X7_codeOf d 0 0 [sg_r M, sg_i trk, sg_i p] h Q := by
  refine sg_of pn_X7 (Nat.le_of_ble_eq_true rfl) ?_
  refine sg_aload_n (pc := 0) (j := 0) (dc_X7_codeOf_0.1.1.1.1) rfl rfl ?_
  refine md_grw (pc := 1) g (dc_X7_codeOf_0.1.1.1.2) fk_X7_9 (by assumption) (fun r1 => ?_)
  refine sg_iconst (pc := 4) (z := 4) (dc_X7_codeOf_0.1.1.2.1) (by decide) ?_
  refine sg_iload_n (pc := 5) (j := 1) (dc_X7_codeOf_0.1.1.2.2) rfl rfl ?_
  first | refine sg_iaddB (pc := 6) (dc_X7_codeOf_0.1.2.1.1) (by omega) (by omega) ?_ | refine sg_iadd (pc := 6) (dc_X7_codeOf_0.1.2.1.1) ?_
  first | refine md_alr (pc := 7) (dc_X7_codeOf_0.1.2.1.2) (by assumption) (by omega) (by omega) (fun A7 l7 => ?_) | refine md_alt (pc := 7) (dc_X7_codeOf_0.1.2.1.2) (by assumption) (by omega) (by omega) (fun A7 l7 => ?_)
  refine sg_astore_n (pc := 8) (j := 3) (dc_X7_codeOf_0.1.2.2.1) rfl (by decide) ?_
  refine sg_aload_n (pc := 9) (j := 3) (dc_X7_codeOf_0.1.2.2.2) rfl rfl ?_
  refine sg_iload_n (pc := 10) (j := 2) (dc_X7_codeOf_0.2.1.1.1) rfl rfl ?_
  refine md_alv (pc := 11) (dc_X7_codeOf_0.2.1.1.2) (by assumption) (by omega) (by omega) (fun g11 => ?_)
  have q11 := ck_v1.mp g11
  refine sg_cS1 (pc := 12) (d' := d - 1) (mc' := 0) (ms' := 0) g (dc_X7_codeOf_0.2.1.2.1) cb_X7_isHigh ml_X7_122 ms_X7_isHigh (Nat.le_of_ble_eq_true rfl) (by first | exact jl_d0 hd rfl | omega) (by first | exact Nat.le_of_ble_eq_true rfl | omega) (by first | exact Nat.le_of_ble_eq_true rfl | omega) ?_
  refine s_X7_isHigh g (by first | exact jl_d1 hd rfl | omega) (fun z12 h12 b12 => sg_K1 ?_)
  (try simp only [fm_no, fm_one, fn_betw, fn_sign, fn_radix, fn_high, fn_low] at h12)
  refine sg_if_eq (pc := 15) (tgt := 51) (dc_X7_codeOf_0.2.1.2.2) (by decide) (fun c15 => ?_) (fun c15 => ?_)
  · refine sg_aload_n (pc := 51) (j := 3) (dc_X7_codeOf_44.1.2.2) rfl rfl ?_
    refine sg_iload_n (pc := 52) (j := 2) (dc_X7_codeOf_44.2.1.1) rfl rfl ?_
    refine md_alv (pc := 53) (dc_X7_codeOf_44.2.1.2) (by assumption) (by omega) (by omega) (fun g53 => ?_)
    have q53 := ck_v1.mp g53
    refine sg_iret (pc := 54) (dc_X7_codeOf_44.2.2.1) rfl (by first | exact Nat.le_of_ble_eq_true rfl | omega) (by first | exact Nat.le_of_ble_eq_true rfl | omega) ?_
    exact hQ _ (by unfold jcd fn_high fn_low; first | omega | ((repeat' split) <;> omega)) (by omega) (by omega) (by omega)
  · refine sg_iload_n (pc := 18) (j := 2) (dc_X7_codeOf_0.2.2.1.1) rfl rfl ?_
    refine sg_iconst (pc := 19) (z := 1) (dc_X7_codeOf_0.2.2.1.2) (by decide) ?_
    first | refine sg_iaddB (pc := 20) (dc_X7_codeOf_0.2.2.2.1) (by omega) (by omega) ?_ | refine sg_iadd (pc := 20) (dc_X7_codeOf_0.2.2.2.1) ?_
    refine sg_aload_n (pc := 21) (j := 3) (dc_X7_codeOf_0.2.2.2.2) rfl rfl ?_
    refine md_len (pc := 22) (dc_X7_codeOf_22.1.1.1.1) (by assumption) (by omega) ?_
    refine sg_icmp_ge (pc := 23) (tgt := 51) (dc_X7_codeOf_22.1.1.1.2) (by decide) (fun c23 => ?_) (fun c23 => ?_)
    · refine sg_aload_n (pc := 51) (j := 3) (dc_X7_codeOf_44.1.2.2) rfl rfl ?_
      refine sg_iload_n (pc := 52) (j := 2) (dc_X7_codeOf_44.2.1.1) rfl rfl ?_
      refine md_alv (pc := 53) (dc_X7_codeOf_44.2.1.2) (by assumption) (by omega) (by omega) (fun g53 => ?_)
      have q53 := ck_v1.mp g53
      refine sg_iret (pc := 54) (dc_X7_codeOf_44.2.2.1) rfl (by first | exact Nat.le_of_ble_eq_true rfl | omega) (by first | exact Nat.le_of_ble_eq_true rfl | omega) ?_
      exact hQ _ (by unfold jcd fn_high fn_low; first | omega | ((repeat' split) <;> omega)) (by omega) (by omega) (by omega)
    · refine sg_aload_n (pc := 26) (j := 3) (dc_X7_codeOf_22.1.1.2.1) rfl rfl ?_
      refine sg_iload_n (pc := 27) (j := 2) (dc_X7_codeOf_22.1.1.2.2) rfl rfl ?_
      refine sg_iconst (pc := 28) (z := 1) (dc_X7_codeOf_22.1.2.1.1) (by decide) ?_
      first | refine sg_iaddB (pc := 29) (dc_X7_codeOf_22.1.2.1.2) (by omega) (by omega) ?_ | refine sg_iadd (pc := 29) (dc_X7_codeOf_22.1.2.1.2) ?_
      refine md_alv (pc := 30) (dc_X7_codeOf_22.1.2.2.1) (by assumption) (by omega) (by omega) (fun g30 => ?_)
      have q30 := ck_v1.mp g30
      refine sg_cS1 (pc := 31) (d' := d - 1) (mc' := 0) (ms' := 0) g (dc_X7_codeOf_22.1.2.2.2) cb_X7_isLow ml_X7_125 ms_X7_isLow (Nat.le_of_ble_eq_true rfl) (by first | exact jl_d0 hd rfl | omega) (by first | exact Nat.le_of_ble_eq_true rfl | omega) (by first | exact Nat.le_of_ble_eq_true rfl | omega) ?_
      refine s_X7_isLow g (by first | exact jl_d1 hd rfl | omega) (fun z31 h31 b31 => sg_K1 ?_)
      (try simp only [fm_no, fm_one, fn_betw, fn_sign, fn_radix, fn_high, fn_low] at h31)
      refine sg_if_eq (pc := 34) (tgt := 51) (dc_X7_codeOf_22.2.1.1.1) (by decide) (fun c34 => ?_) (fun c34 => ?_)
      · refine sg_aload_n (pc := 51) (j := 3) (dc_X7_codeOf_44.1.2.2) rfl rfl ?_
        refine sg_iload_n (pc := 52) (j := 2) (dc_X7_codeOf_44.2.1.1) rfl rfl ?_
        refine md_alv (pc := 53) (dc_X7_codeOf_44.2.1.2) (by assumption) (by omega) (by omega) (fun g53 => ?_)
        have q53 := ck_v1.mp g53
        refine sg_iret (pc := 54) (dc_X7_codeOf_44.2.2.1) rfl (by first | exact Nat.le_of_ble_eq_true rfl | omega) (by first | exact Nat.le_of_ble_eq_true rfl | omega) ?_
        exact hQ _ (by unfold jcd fn_high fn_low; first | omega | ((repeat' split) <;> omega)) (by omega) (by omega) (by omega)
      · refine sg_aload_n (pc := 37) (j := 3) (dc_X7_codeOf_22.2.1.1.2) rfl rfl ?_
        refine sg_iload_n (pc := 38) (j := 2) (dc_X7_codeOf_22.2.1.2.1) rfl rfl ?_
        refine md_alv (pc := 39) (dc_X7_codeOf_22.2.1.2.2) (by assumption) (by omega) (by omega) (fun g39 => ?_)
        have q39 := ck_v1.mp g39
        refine sg_aload_n (pc := 40) (j := 3) (dc_X7_codeOf_22.2.2.1.1) rfl rfl ?_
        refine sg_iload_n (pc := 41) (j := 2) (dc_X7_codeOf_22.2.2.1.2) rfl rfl ?_
        refine sg_iconst (pc := 42) (z := 1) (dc_X7_codeOf_22.2.2.2.1) (by decide) ?_
        first | refine sg_iaddB (pc := 43) (dc_X7_codeOf_22.2.2.2.2) (by omega) (by omega) ?_ | refine sg_iadd (pc := 43) (dc_X7_codeOf_22.2.2.2.2) ?_
        refine md_alv (pc := 44) (dc_X7_codeOf_44.1.1.1) (by assumption) (by omega) (by omega) (fun g44 => ?_)
        have q44 := ck_v1.mp g44
        refine sg_cS2 (pc := 45) (d' := d - 1) (mc' := 0) (ms' := 0) g (dc_X7_codeOf_44.1.1.2) cb_X7_both ml_X7_147 ms_X7_both (Nat.le_of_ble_eq_true rfl) (by first | exact jl_d0 hd rfl | omega) (by first | exact Nat.le_of_ble_eq_true rfl | omega) (by first | exact Nat.le_of_ble_eq_true rfl | omega) ?_
        refine s_X7_both g (by first | exact jl_d1 hd rfl | omega) (fun z45 h45 => sg_K1 ?_)
        refine sg_goto (pc := 48) (tgt := 54) (dc_X7_codeOf_44.1.2.1) (by decide) ?_
        refine sg_iret (pc := 54) (dc_X7_codeOf_44.2.2.1) rfl (by first | exact Nat.le_of_ble_eq_true rfl | omega) (by first | exact Nat.le_of_ble_eq_true rfl | omega) ?_
        exact hQ _ (by unfold jcd fn_high fn_low; first | omega | ((repeat' split) <;> omega)) (by omega) (by omega) (by omega)

set_option maxRecDepth 100000 in
theorem s_X7_joinedF {w : sg_W} {Q : sg_O → sg_H → Prop} {h : sg_H} (g : sg_G w) {d : Nat} (hd : 3 ≤ d) {c a b n m : Nat} (hA : md_A c h a n) (hB : md_A c h b m) (hn : n ≤ 100) (hm : m ≤ 100) (hQ : ∀ h' : sg_H, md_T c h h' (n + m) → (∀ k : Int, 0 ≤ k → k < (n : Int) + m → md_v h' h.1 k = (if k < (n : Int) then md_v h a k else md_v h b (k - n))) → Q (.inl (some (sg_r h.1))) h') : sg_C w mi_X7_joined d 1 (n + m) [sg_r a, sg_r b] h Q := by
  refine sg_of pn_X7 (Nat.le_of_ble_eq_true rfl) ?_
  refine sg_aload_n (pc := 0) (j := 0) (dc_X7_joined_0.1.1.1.1) rfl rfl ?_
  refine md_len (pc := 1) (dc_X7_joined_0.1.1.1.2) hA (by omega) ?_
  refine sg_aload_n (pc := 2) (j := 1) (dc_X7_joined_0.1.1.2.1) rfl rfl ?_
  refine md_len (pc := 3) (dc_X7_joined_0.1.1.2.2) hB (by omega) ?_
  first | refine sg_iaddB (pc := 4) (dc_X7_joined_0.1.2.1.1) (by omega) (by omega) ?_ | refine sg_iadd (pc := 4) (dc_X7_joined_0.1.2.1.1) ?_
  refine sg_newa (t := 100) (N := (n + m)) (pc := 5) g (dc_X7_joined_0.1.2.1.2) ac_int rfl (by decide) (by decide) rfl rfl (by decide) (by omega) (by omega) (by omega) (by omega) ?_
  refine sg_astore_n (pc := 7) (j := 2) (dc_X7_joined_0.1.2.2.1) rfl (by decide) ?_
  refine sg_iconst (pc := 8) (z := 0) (dc_X7_joined_0.1.2.2.2) (by decide) ?_
  refine sg_istore_n (pc := 9) (j := 3) (dc_X7_joined_0.2.1.1.1) rfl (by decide) ?_
  have loop10 : ∀ (N : Nat) (h1 : sg_H) (p : Int), md_T c h h1 (n + m) → 0 ≤ p → (∀ k : Int, 0 ≤ k → k < p → md_v h1 h.1 k = (if k < (n : Int) then md_v h a k else md_v h b (k - n))) → ((n : Int) + m - p).toNat < N → sg_R w mi_X7_joined d 1 (n + m) Q 10 [(3, sg_i p), (0, sg_r a), (1, sg_r b), (2, sg_r h.1)] [] h1 1 (0 + (n + m)) := by
    intro N
    induction N with
    | zero => intro h1 p t1 p0 cc hm; exact absurd hm (Nat.not_lt_zero _)
    | succ N ih =>
      intro h1 p t1 p0 cc hm
      refine sg_iload_n (pc := 10) (j := 3) (dc_X7_joined_0.2.1.1.2) rfl rfl ?_
      refine sg_aload_n (pc := 11) (j := 2) (dc_X7_joined_0.2.1.2.1) rfl rfl ?_
      refine md_len (pc := 12) (dc_X7_joined_0.2.1.2.2) t1.2.2 (by omega) ?_
      refine sg_icmp_ge (pc := 13) (tgt := 43) (dc_X7_joined_0.2.2.1.1) (by decide) (fun c13 => ?_) (fun c13 => ?_)
      · refine sg_aload_n (pc := 43) (j := 2) (dc_X7_joined_43.1) rfl rfl ?_
        refine sg_aret (pc := 44) (dc_X7_joined_43.2) rfl (by first | exact Or.inl ⟨_, rfl⟩ | exact Or.inr ⟨_, rfl⟩) (by first | exact Nat.le_of_ble_eq_true rfl | omega) (by first | exact Nat.le_of_ble_eq_true rfl | omega) ?_
        exact hQ _ t1 (fun k k0 k1 => cc k k0 (by omega))
      · refine sg_aload_n (pc := 16) (j := 2) (dc_X7_joined_0.2.2.1.2) rfl rfl ?_
        refine sg_iload_n (pc := 17) (j := 3) (dc_X7_joined_0.2.2.2.1) rfl rfl ?_
        refine sg_iload_n (pc := 18) (j := 3) (dc_X7_joined_0.2.2.2.2) rfl rfl ?_
        refine sg_aload_n (pc := 19) (j := 0) (dc_X7_joined_19.1.1.1.1) rfl rfl ?_
        refine md_len (pc := 20) (dc_X7_joined_19.1.1.1.2) (md_AT hA t1) (by omega) ?_
        refine sg_icmp_ge (pc := 21) (tgt := 30) (dc_X7_joined_19.1.1.2.1) (by decide) (fun c21 => ?_) (fun c21 => ?_)
        · refine sg_aload_n (pc := 30) (j := 1) (dc_X7_joined_19.1.2.2.2) rfl rfl ?_
          refine sg_iload_n (pc := 31) (j := 3) (dc_X7_joined_19.2.1.1.1) rfl rfl ?_
          refine sg_aload_n (pc := 32) (j := 0) (dc_X7_joined_19.2.1.1.2) rfl rfl ?_
          refine md_len (pc := 33) (dc_X7_joined_19.2.1.2.1) (md_AT hA t1) (by omega) ?_
          first | refine sg_isubB (pc := 34) (dc_X7_joined_19.2.1.2.2) (by omega) (by omega) ?_ | refine sg_isub (pc := 34) (dc_X7_joined_19.2.1.2.2) ?_
          refine md_alv (pc := 35) (dc_X7_joined_19.2.2.1.1) (md_AT hB t1) (by omega) (by omega) (fun g35 => ?_)
          rw [md_vT hB t1] at g35 ⊢
          refine md_astv (pc := 36) (dc_X7_joined_19.2.2.1.2) t1 (by assumption) (by omega) (by omega) (fun h36 t36 c36 => ?_)
          have c37 : ∀ k : Int, 0 ≤ k → k < p + 1 → md_v h36 h.1 k = (if k < (n : Int) then md_v h a k else md_v h b (k - n)) := fun k k0 k1 => by
            rw [c36 k k0]
            by_cases q : k = p
            · rw [if_pos q, q]
              first | rw [if_pos (by omega)] | rw [if_neg (by omega)]
            · rw [if_neg q]
              exact cc k k0 (by omega)
          first | refine sg_iincB (pc := 37) (dc_X7_joined_19.2.2.2.1) rfl (by decide) (by decide) (by omega) (by omega) ?_ | refine sg_iinc (pc := 37) (dc_X7_joined_19.2.2.2.1) rfl (by decide) (by decide) ?_
          refine sg_goto (pc := 40) (tgt := 10) (dc_X7_joined_19.2.2.2.2) (by decide) ?_
          refine sg_lsub (lv' := [(3, _), (0, _), (1, _), (2, _)]) ⟨rfl, rfl, rfl, rfl, trivial⟩ ?_
          exact ih _ _ t36 (by omega) c37 (by omega)
        · refine sg_aload_n (pc := 24) (j := 0) (dc_X7_joined_19.1.1.2.2) rfl rfl ?_
          refine sg_iload_n (pc := 25) (j := 3) (dc_X7_joined_19.1.2.1.1) rfl rfl ?_
          refine md_alv (pc := 26) (dc_X7_joined_19.1.2.1.2) (md_AT hA t1) (by omega) (by omega) (fun g26 => ?_)
          rw [md_vT hA t1] at g26 ⊢
          refine sg_goto (pc := 27) (tgt := 36) (dc_X7_joined_19.1.2.2.1) (by decide) ?_
          refine md_astv (pc := 36) (dc_X7_joined_19.2.2.1.2) t1 (by assumption) (by omega) (by omega) (fun h36 t36 c36 => ?_)
          have c37 : ∀ k : Int, 0 ≤ k → k < p + 1 → md_v h36 h.1 k = (if k < (n : Int) then md_v h a k else md_v h b (k - n)) := fun k k0 k1 => by
            rw [c36 k k0]
            by_cases q : k = p
            · rw [if_pos q, q]
              first | rw [if_pos (by omega)] | rw [if_neg (by omega)]
            · rw [if_neg q]
              exact cc k k0 (by omega)
          first | refine sg_iincB (pc := 37) (dc_X7_joined_19.2.2.2.1) rfl (by decide) (by decide) (by omega) (by omega) ?_ | refine sg_iinc (pc := 37) (dc_X7_joined_19.2.2.2.1) rfl (by decide) (by decide) ?_
          refine sg_goto (pc := 40) (tgt := 10) (dc_X7_joined_19.2.2.2.2) (by decide) ?_
          refine sg_lsub (lv' := [(3, _), (0, _), (1, _), (2, _)]) ⟨rfl, rfl, rfl, rfl, trivial⟩ ?_
          exact ih _ _ t36 (by omega) c37 (by omega)
  refine sg_lsub (lv' := [(3, _), (0, _), (1, _), (2, _)]) ⟨rfl, rfl, rfl, rfl, trivial⟩ ?_
  exact loop10 _ _ _ md_new (by omega) (fun k k0 k1 => absurd k1 (by omega)) (Nat.lt_succ_self _)

set_option maxRecDepth 100000 in
theorem s_X7_codesF {w : sg_W} {Q : sg_O → sg_H → Prop} {h : sg_H} (g : sg_G w) {d : Nat} (hd : 7 ≤ d) {M : Nat} {trk : Int} (hv : 0 ≤ trk ∧ trk < 2) (hx : md_M w h M) (hQ : ∀ (h' : sg_H) (a m : Nat), md_E h h' → md_A 2 h' a m → m ≤ 24 → jsum (md_v h' a) m ≤ 24 → Q (.inl (some (sg_r a))) h') : sg_C w mi_X7_codes d 76 675 [sg_r M, sg_i trk] h Q := by
  refine sg_of pn_X7 (Nat.le_of_ble_eq_true rfl) ?_
  have n24 := md_n24 hx (i := 4 + trk) (by omega) (by omega)
  refine sg_iconst (pc := 0) (z := 0) (dc_X7_codes_0.1.1.1.1) (by decide) ?_
  refine sg_newa (t := 100) (N := 0) (pc := 1) g (dc_X7_codes_0.1.1.1.2) ac_int rfl (by decide) (by decide) rfl rfl (by decide) (by omega) (by omega) (by omega) (by omega) ?_
  refine sg_astore_n (pc := 3) (j := 2) (dc_X7_codes_0.1.1.2.1) rfl (by decide) ?_
  refine sg_iconst (pc := 4) (z := 0) (dc_X7_codes_0.1.1.2.2) (by decide) ?_
  refine sg_istore_n (pc := 5) (j := 3) (dc_X7_codes_0.1.2.1.1) rfl (by decide) ?_
  have loop6 : ∀ (N : Nat) (h1 : sg_H) (p : Int) (a m k1 n1 : Nat), md_E h h1 → md_A 2 h1 a m → 0 ≤ p ∧ p ≤ ((md_n h (md_a h (md_r h M) (4 + trk)) : Nat) : Int) → (m : Int) ≤ p → (k1 : Int) ≤ 1 + 3 * p → (n1 : Int) ≤ 27 * p → jsum (md_v h1 a) m = p → (25 - p).toNat < N → sg_R w mi_X7_codes d 76 675 Q 6 [(3, sg_i p), (0, sg_r M), (1, sg_i trk), (2, sg_r a)] [] h1 k1 n1 := by
    intro N
    induction N with
    | zero => intro h1 p a m k1 n1 E1 A1 p0 m1 kb nb js hm; exact absurd hm (Nat.not_lt_zero _)
    | succ N ih =>
      intro h1 p a m k1 n1 E1 A1 p0 m1 kb nb js hm
      have x1 := md_ME hx E1
      refine sg_iload_n (pc := 6) (j := 3) (dc_X7_codes_0.1.2.1.2) rfl rfl ?_
      refine sg_aload_n (pc := 7) (j := 0) (dc_X7_codes_0.1.2.2.1) rfl rfl ?_
      refine md_grw (pc := 8) g (dc_X7_codes_0.1.2.2.2) fk_X7_9 (by assumption) (fun r8 => ?_)
      refine sg_iconst (pc := 11) (z := 4) (dc_X7_codes_0.2.1.1.1) (by decide) ?_
      refine sg_iload_n (pc := 12) (j := 1) (dc_X7_codes_0.2.1.1.2) rfl rfl ?_
      first | refine sg_iaddB (pc := 13) (dc_X7_codes_0.2.1.2.1) (by omega) (by omega) ?_ | refine sg_iadd (pc := 13) (dc_X7_codes_0.2.1.2.1) ?_
      first | refine md_alr (pc := 14) (dc_X7_codes_0.2.1.2.2) (by assumption) (by omega) (by omega) (fun A14 l14 => ?_) | refine md_alt (pc := 14) (dc_X7_codes_0.2.1.2.2) (by assumption) (by omega) (by omega) (fun A14 l14 => ?_)
      refine md_len (pc := 15) (dc_X7_codes_0.2.2.1.1) (by assumption) (by omega) ?_
      refine sg_icmp_ge (pc := 16) (tgt := 52) (dc_X7_codes_0.2.2.1.2) (by decide) (fun c16 => ?_) (fun c16 => ?_)
      · refine sg_aload_n (pc := 52) (j := 2) (dc_X7_codes_46.2.1.1) rfl rfl ?_
        refine sg_aret (pc := 53) (dc_X7_codes_46.2.1.2) rfl (by first | exact Or.inl ⟨_, rfl⟩ | exact Or.inr ⟨_, rfl⟩) (by first | exact Nat.le_of_ble_eq_true rfl | omega) (by first | exact Nat.le_of_ble_eq_true rfl | omega) ?_
        have ne := md_SE hx E1 (i := 4 + trk) (by omega) (by omega)
        exact hQ _ _ _ E1 A1 (by omega) (by omega)
      · refine sg_aload_n (pc := 19) (j := 2) (dc_X7_codes_0.2.2.2.1) rfl rfl ?_
        refine sg_iconst (pc := 20) (z := 1) (dc_X7_codes_0.2.2.2.2) (by decide) ?_
        refine sg_newa (t := 100) (N := 1) (pc := 21) g (dc_X7_codes_21.1.1.1.1) ac_int rfl (by decide) (by decide) rfl rfl (by decide) (by omega) (by omega) (by omega) (by omega) ?_
        have ve := md_vE hx E1 (i := 4 + trk) (by omega) (by omega)
        have ne := md_SE hx E1 (i := 4 + trk) (by omega) (by omega)
        have T21 := md_new (c := 2) (N := 1) (h := h1)
        have X21 := md_ME x1 (md_TE T21)
        have s21 := md_SE x1 (md_TE T21) (i := 4 + trk) (by omega) (by omega)
        have E21 := md_Et E1 (md_TE T21)
        have ve3 := md_vE hx E21 (i := 4 + trk) (by omega) (by omega)
        have ne3 := md_SE hx E21 (i := 4 + trk) (by omega) (by omega)
        refine sg_dup (pc := 23) (dc_X7_codes_21.1.1.1.2) rfl ?_
        refine sg_iconst (pc := 24) (z := 0) (dc_X7_codes_21.1.1.2.1) (by decide) ?_
        refine sg_aload_n (pc := 25) (j := 0) (dc_X7_codes_21.1.1.2.2) rfl rfl ?_
        refine sg_iload_n (pc := 26) (j := 1) (dc_X7_codes_21.1.2.1.1) rfl rfl ?_
        refine sg_iload_n (pc := 27) (j := 3) (dc_X7_codes_21.1.2.1.2) rfl rfl ?_
        refine sg_cE2 (pc := 28) (d' := d - 1) (mc' := 0) (ms' := 0) 8 g (dc_X7_codes_21.1.2.2.1) cb_X7_codeOf ml_X7_150 mn_X7_codeOf rfl mv_X7_codeOf (Nat.le_of_ble_eq_true rfl) (md_oc (by assumption)) (Nat.le_of_ble_eq_true rfl) (by first | exact jl_d0 hd rfl | omega) (by first | exact Nat.le_of_ble_eq_true rfl | omega) (by first | exact Nat.le_of_ble_eq_true rfl | omega) ?_
        refine s_X7_codeOfW g (by first | exact jl_d1 hd rfl | omega) (by omega) (by assumption) (fun v28 e28 l28 u28 w28 => sg_K1 ?_)
        refine md_astv (pc := 31) (dc_X7_codes_21.1.2.2.2) T21 (by rw [ck_v2]; omega) (by omega) (by omega) (fun h31 t31 c31 => ?_)
        refine sg_cS2 (pc := 32) (d' := d - 1) (mc' := 1) (ms' := m + 1) g (dc_X7_codes_21.2.1.1.1) cb_X7_joined ml_X7_61 ms_X7_joined (Nat.le_of_ble_eq_true rfl) (by first | exact jl_d0 hd rfl | omega) (by first | exact Nat.le_of_ble_eq_true rfl | omega) (by first | exact Nat.le_of_ble_eq_true rfl | omega) ?_
        refine s_X7_joinedF g (by first | exact jl_d1 hd rfl | omega) (md_AT A1 t31) t31.2.2 (by omega) (by decide) (fun h32 t32 c32 => sg_K1 ?_)
        have E32 := md_Et (md_TE t31) (md_TE t32)
        have E32a := md_Et E1 E32
        have X32 := md_ME x1 E32
        have s32 := md_SE x1 E32 (i := 4 + trk) (by omega) (by omega)
        have e5 : md_v h32 h31.1 m = v28 := by rw [c32 m (by omega) (by omega), if_neg (by omega), Int.sub_self, c31 0 (by decide), if_pos rfl]
        have js32 : jsum (md_v h32 h31.1) (m + 1) = p + (if v28 < 65536 then 1 else 2) := by
          rw [jsum, jsum_congr (u := md_v h1 a) (fun k k0 k1 => by rw [c32 k k0 (by omega), if_pos k1, md_vT A1 t31]), js, e5]
        refine sg_astore_n (pc := 35) (j := 2) (dc_X7_codes_21.2.1.1.2) rfl (by decide) ?_
        refine sg_iload_n (pc := 36) (j := 3) (dc_X7_codes_21.2.1.2.1) rfl rfl ?_
        refine sg_aload_n (pc := 37) (j := 0) (dc_X7_codes_21.2.1.2.2) rfl rfl ?_
        refine sg_iload_n (pc := 38) (j := 1) (dc_X7_codes_21.2.2.1.1) rfl rfl ?_
        refine sg_iload_n (pc := 39) (j := 3) (dc_X7_codes_21.2.2.1.2) rfl rfl ?_
        refine sg_cE2 (pc := 40) (d' := d - 1) (mc' := 0) (ms' := 0) 8 g (dc_X7_codes_21.2.2.2.1) cb_X7_codeOf ml_X7_150 mn_X7_codeOf rfl mv_X7_codeOf (Nat.le_of_ble_eq_true rfl) (md_oc (by assumption)) (Nat.le_of_ble_eq_true rfl) (by first | exact jl_d0 hd rfl | omega) (by first | exact Nat.le_of_ble_eq_true rfl | omega) (by first | exact Nat.le_of_ble_eq_true rfl | omega) ?_
        refine s_X7_codeOfW g (by first | exact jl_d1 hd rfl | omega) (by omega) (by assumption) (fun v40 e40 l40 u40 w40 => sg_K1 ?_)
        refine sg_cS1 (pc := 43) (d' := d - 1) (mc' := 1) (ms' := 2) g (dc_X7_codes_21.2.2.2.2) cb_X7_sent ml_X7_133 ms_X7_sent (Nat.le_of_ble_eq_true rfl) (by first | exact jl_d0 hd rfl | omega) (by first | exact Nat.le_of_ble_eq_true rfl | omega) (by first | exact Nat.le_of_ble_eq_true rfl | omega) ?_
        refine s_X7_sent g (by first | exact jl_d1 hd rfl | omega) (by omega) (fun h43 m43 l43 u43 o43 w43 t43 fa43 fb43 => sg_K1 ?_)
        have ve2 := md_vE hx E32a (i := 4 + trk) (by omega) (by omega)
        have ne2 := md_SE hx E32a (i := 4 + trk) (by omega) (by omega)
        rw [ve2, ne2] at e40
        rw [ve3, ne3] at e28
        have e9 : v40 = v28 := e40.trans e28.symm
        have em : (if v28 < 65536 then 1 else 2) = (m43 : Int) := by rw [← e9]; split <;> omega
        refine md_len (pc := 46) (dc_X7_codes_46.1.1.1) t43.2.2 (by omega) ?_
        first | refine sg_iaddB (pc := 47) (dc_X7_codes_46.1.1.2) (by omega) (by omega) ?_ | refine sg_iadd (pc := 47) (dc_X7_codes_46.1.1.2) ?_
        refine sg_istore_n (pc := 48) (j := 3) (dc_X7_codes_46.1.2.1) rfl (by decide) ?_
        refine sg_goto (pc := 49) (tgt := 6) (dc_X7_codes_46.1.2.2) (by decide) ?_
        refine sg_lsub (lv' := [(3, _), (0, _), (1, _), (2, _)]) ⟨rfl, rfl, rfl, rfl, trivial⟩ ?_
        exact ih _ _ _ _ _ _ (md_Et (md_Et E1 E32) (md_TE t43)) (md_AT t32.2.2 t43) (by omega) (by omega) (by omega) (by omega) (by rw [md_vT t32.2.2 t43, js32, em]) (by omega)
  refine sg_lsub (lv' := [(3, _), (0, _), (1, _), (2, _)]) ⟨rfl, rfl, rfl, rfl, trivial⟩ ?_
  exact loop6 _ _ _ _ _ _ _ (md_TE (md_new (c := 2))) md_new.2.2 (by omega) (by omega) (by omega) (by omega) rfl (Nat.lt_succ_self _)

set_option maxRecDepth 100000 in
theorem s_X7_reverse {w : sg_W} {Q : sg_O → sg_H → Prop} {h : sg_H} (g : sg_G w) {d : Nat} (hd : 9 ≤ d) {M : Nat} {trk : Int}  (hx : md_M w h M) (hQ : ∀ (v : Int) (h' : sg_H), md_Y w h h' M → Q (.inl (some (sg_i v))) h') : sg_C w mi_X7_reverse d 210 2100 [sg_r M, sg_i trk] h Q := by
  refine sg_of pn_X7 (Nat.le_of_ble_eq_true rfl) ?_
  have y0 := md_Y0 hx
  have hk := hx.2.1
  refine sg_aload_n (pc := 0) (j := 0) (dc_X7_reverse_0.1.1.1.1) rfl rfl ?_
  refine sg_iload_n (pc := 1) (j := 1) (dc_X7_reverse_0.1.1.1.2) rfl rfl ?_
  refine sg_cS1 (pc := 2) (d' := d - 1) (mc' := 0) (ms' := 0) g (dc_X7_reverse_0.1.1.2.1) cb_X7_isNoTrack ml_X7_129 ms_X7_isNoTrack (Nat.le_of_ble_eq_true rfl) (by first | exact jl_d0 hd rfl | omega) (by first | exact Nat.le_of_ble_eq_true rfl | omega) (by first | exact Nat.le_of_ble_eq_true rfl | omega) ?_
  refine s_X7_isNoTrack g (by first | exact jl_d1 hd rfl | omega) (fun z2 h2 b2 => sg_K1 ?_)
  (try simp only [fm_no, fm_one, fn_betw, fn_sign, fn_radix, fn_high, fn_low] at h2)
  refine sg_iconst (pc := 5) (z := 1) (dc_X7_reverse_0.1.1.2.2) (by decide) ?_
  refine sg_cE2 (pc := 6) (d' := d - 1) (mc' := 0) (ms' := 0) 8 g (dc_X7_reverse_0.1.2.1.1) cb_X7_start ml_X7_71 mn_X7_start rfl mv_X7_start (Nat.le_of_ble_eq_true rfl) (md_oc (by assumption)) (Nat.le_of_ble_eq_true rfl) (by first | exact jl_d0 hd rfl | omega) (by first | exact Nat.le_of_ble_eq_true rfl | omega) (by first | exact Nat.le_of_ble_eq_true rfl | omega) ?_
  refine s_X7_start g (by first | exact jl_d1 hd rfl | omega) (by omega) (by assumption) (fun v6 h6 b6 i6 t6 s6 u6 y6 => sg_K1 ?_)
  have x6 := y6.1
  have hk6 := x6.2.1
  have y6 := md_Yt (h0 := h) (by assumption) y6
  refine sg_if_eq (pc := 9) (tgt := 14) (dc_X7_reverse_0.1.2.1.2) (by decide) (fun c9 => ?_) (fun c9 => ?_)
  · have T15 := md_new (c := 1) (N := 0) (h := h6)
    have X15 : md_M w (h6.1 + 1, sg_up h6.2 h6.1 (100, List.replicate 0 (sg_i 0))) M := md_ME x6 (md_TE T15)
    have k15 := X15.2.1
    have Y15 : md_Y w h (h6.1 + 1, sg_up h6.2 h6.1 (100, List.replicate 0 (sg_i 0))) M := md_YE y6 (md_TE T15)
    refine sg_iconst (pc := 14) (z := 0) (dc_X7_reverse_0.2.1.1.1) (by decide) ?_
    refine sg_newa (t := 100) (N := 0) (pc := 15) g (dc_X7_reverse_0.2.1.1.2) ac_int rfl (by decide) (by decide) rfl rfl (by decide) (by omega) (by omega) (by omega) (by omega) ?_
    refine sg_astore_n (pc := 17) (j := 2) (dc_X7_reverse_0.2.1.2.1) rfl (by decide) ?_
    refine sg_aload_n (pc := 18) (j := 0) (dc_X7_reverse_0.2.1.2.2) rfl rfl ?_
    refine sg_iload_n (pc := 19) (j := 1) (dc_X7_reverse_0.2.2.1.1) rfl rfl ?_
    refine sg_cE1 (pc := 20) (d' := d - 1) (mc' := 76) (ms' := 675) 8 g (dc_X7_reverse_0.2.2.1.2) cb_X7_codes ml_X7_153 mn_X7_codes rfl mv_X7_codes (Nat.le_of_ble_eq_true rfl) (md_oc (by assumption)) (Nat.le_of_ble_eq_true rfl) (by first | exact jl_d0 hd rfl | omega) (by first | exact Nat.le_of_ble_eq_true rfl | omega) (by first | exact Nat.le_of_ble_eq_true rfl | omega) ?_
    refine s_X7_codesF g (by first | exact jl_d1 hd rfl | omega) (by omega) (by assumption) (fun h20 a20 m20 E20 A20 l20 w20 => sg_K1 ?_)
    have X20 : md_M w h20 M := md_ME (by assumption) E20
    have k20 := X20.2.1
    try have Y20 : md_Y w h h20 M := md_YE (by assumption) E20
    refine sg_astore_n (pc := 23) (j := 3) (dc_X7_reverse_0.2.2.2.1) rfl (by decide) ?_
    refine sg_aload_n (pc := 24) (j := 3) (dc_X7_reverse_0.2.2.2.2) rfl rfl ?_
    refine md_len (pc := 25) (dc_X7_reverse_25.1.1.1.1) A20 (by omega) ?_
    refine sg_istore (pc := 26) (dc_X7_reverse_25.1.1.1.2) (by decide) ?_
    refine sg_iconst (pc := 28) (z := 0) (dc_X7_reverse_25.1.1.2.1) (by decide) ?_
    refine sg_istore (pc := 29) (dc_X7_reverse_25.1.1.2.2) (by decide) ?_
    have loop31 : ∀ (N : Nat) (h1 : sg_H) (p b m k1 n1 : Nat), md_E h20 h1 → md_A 1 h1 b m → p ≤ m20 → (m : Int) = jsum (md_v h20 a20) p → k1 ≤ 77 + 2 * p → n1 ≤ 675 + 28 * p → (m20 - p) < N → sg_R w mi_X7_reverse d 210 2100 Q 31 [(5, sg_i (p : Int)), (4, sg_i (m20 : Int)), (3, sg_r a20), (2, sg_r b), (0, sg_r M), (1, sg_i trk)] [] h1 k1 n1 := by
      intro N
      induction N with
      | zero => intro h1 p b m k1 n1 E1 B1 p1 js kb nb hm; exact absurd hm (Nat.not_lt_zero _)
      | succ N ih =>
        intro h1 p b m k1 n1 E1 B1 p1 js kb nb hm
        have x1 : md_M w h1 M := md_ME X20 E1
        have hk1 := x1.2.1
        have y1 : md_Y w h h1 M := md_YE Y20 E1
        have jm := jsum_mono (v := md_v h20 a20) p (m20 - p)
        rw [show p + (m20 - p) = m20 by omega] at jm
        refine sg_iload (pc := 31) (dc_X7_reverse_25.1.2.1.1) rfl ?_
        refine sg_iload (pc := 33) (dc_X7_reverse_25.1.2.1.2) rfl ?_
        refine sg_icmp_ge (pc := 35) (tgt := 60) (dc_X7_reverse_25.1.2.2.1) (by decide) (fun c35 => ?_) (fun c35 => ?_)
        · refine sg_aload_n (pc := 60) (j := 0) (dc_X7_reverse_54.1.1.2.1) rfl rfl ?_
          refine sg_iconst (pc := 61) (z := 4) (dc_X7_reverse_54.1.1.2.2) (by decide) ?_
          refine sg_iload_n (pc := 62) (j := 1) (dc_X7_reverse_54.1.2.1.1) rfl rfl ?_
          first | refine sg_iaddB (pc := 63) (dc_X7_reverse_54.1.2.1.2) (by omega) (by omega) ?_ | refine sg_iadd (pc := 63) (dc_X7_reverse_54.1.2.1.2) ?_
          refine sg_aload_n (pc := 64) (j := 2) (dc_X7_reverse_54.1.2.2.1) rfl rfl ?_
          refine sg_cE2 (pc := 65) (d' := d - 1) (mc' := 2) (ms' := 16) 8 g (dc_X7_reverse_54.1.2.2.2) cb_X7_set ml_X7_78 mn_X7_set rfl mv_X7_set (Nat.le_of_ble_eq_true rfl) (md_oc (by assumption)) (Nat.le_of_ble_eq_true rfl) (by first | exact jl_d0 hd rfl | omega) (by first | exact Nat.le_of_ble_eq_true rfl | omega) (by first | exact Nat.le_of_ble_eq_true rfl | omega) ?_
          refine s_X7_set g (by first | exact jl_d1 hd rfl | omega) (by omega) (by assumption) (fun q => absurd q (by omega)) (fun q => ⟨B1, (by omega)⟩) (fun h65 y65 => sg_K1 ?_)
          have x65 := y65.1
          have hk65 := x65.2.1
          have y65 := md_Yt (h0 := h) (by assumption) y65
          refine sg_pop (pc := 68) (dc_X7_reverse_54.2.1.1.1) rfl ?_
          refine sg_aload_n (pc := 69) (j := 0) (dc_X7_reverse_54.2.1.1.2) rfl rfl ?_
          refine sg_iload_n (pc := 70) (j := 1) (dc_X7_reverse_54.2.1.2.1) rfl rfl ?_
          refine sg_cE1 (pc := 71) (d' := d - 1) (mc' := 76) (ms' := 675) 8 g (dc_X7_reverse_54.2.1.2.2) cb_X7_codes ml_X7_153 mn_X7_codes rfl mv_X7_codes (Nat.le_of_ble_eq_true rfl) (md_oc (by assumption)) (Nat.le_of_ble_eq_true rfl) (by first | exact jl_d0 hd rfl | omega) (by first | exact Nat.le_of_ble_eq_true rfl | omega) (by first | exact Nat.le_of_ble_eq_true rfl | omega) ?_
          refine s_X7_codesF g (by first | exact jl_d1 hd rfl | omega) (by omega) (by assumption) (fun h71 a71 m71 E71 A71 l71 w71 => sg_K1 ?_)
          have X71 : md_M w h71 M := md_ME (by assumption) E71
          have k71 := X71.2.1
          try have Y71 : md_Y w h h71 M := md_YE (by assumption) E71
          refine md_len (pc := 74) (dc_X7_reverse_54.2.2.1.1) A71 (by omega) ?_
          refine sg_iret (pc := 75) (dc_X7_reverse_54.2.2.1.2) rfl (by first | exact Nat.le_of_ble_eq_true rfl | omega) (by first | exact Nat.le_of_ble_eq_true rfl | omega) ?_
          exact hQ _ _ (by assumption)
        · refine sg_aload_n (pc := 38) (j := 3) (dc_X7_reverse_25.1.2.2.2) rfl rfl ?_
          refine sg_iload (pc := 39) (dc_X7_reverse_25.2.1.1.1) rfl ?_
          refine md_alv (pc := 41) (dc_X7_reverse_25.2.1.1.2) (md_AE A20 E1) (by omega) (by omega) (fun g41 => ?_)
          have va : md_v h1 a20 = md_v h20 a20 := by funext i; unfold md_v; rw [E1.2 a20 A20.1]
          rw [va] at g41 ⊢
          have q41 := ck_v2.mp g41
          refine sg_istore (pc := 42) (dc_X7_reverse_25.2.1.2.1) (by decide) ?_
          refine sg_iload (pc := 44) (dc_X7_reverse_25.2.1.2.2) rfl ?_
          refine sg_cS1 (pc := 46) (d' := d - 1) (mc' := 1) (ms' := 2) g (dc_X7_reverse_25.2.2.1.1) cb_X7_sent ml_X7_133 ms_X7_sent (Nat.le_of_ble_eq_true rfl) (by first | exact jl_d0 hd rfl | omega) (by first | exact Nat.le_of_ble_eq_true rfl | omega) (by first | exact Nat.le_of_ble_eq_true rfl | omega) ?_
          refine s_X7_sent g (by first | exact jl_d1 hd rfl | omega) (by omega) (fun h46 m46 l46 u46 o46 w46 t46 fa46 fb46 => sg_K1 ?_)
          skip
          refine sg_aload_n (pc := 49) (j := 2) (dc_X7_reverse_25.2.2.1.2) rfl rfl ?_
          refine sg_cS2 (pc := 50) (d' := d - 1) (mc' := 1) (ms' := (m46 + m)) g (dc_X7_reverse_25.2.2.2.1) cb_X7_joined ml_X7_61 ms_X7_joined (Nat.le_of_ble_eq_true rfl) (by first | exact jl_d0 hd rfl | omega) (by first | exact Nat.le_of_ble_eq_true rfl | omega) (by first | exact Nat.le_of_ble_eq_true rfl | omega) ?_
          refine s_X7_joined (c := 1) g (by first | exact jl_d1 hd rfl | omega) t46.2.2 (md_AT B1 t46) (by omega) (by omega) (fun h50 t50 => sg_K1 ?_)
          have jm2 := jsum_mono (v := md_v h20 a20) (p + 1) (m20 - (p + 1))
          rw [show p + 1 + (m20 - (p + 1)) = m20 by omega, jsum] at jm2
          refine sg_astore_n (pc := 53) (j := 2) (dc_X7_reverse_25.2.2.2.2) rfl (by decide) ?_
          first | refine sg_iincB (pc := 54) (dc_X7_reverse_54.1.1.1.1) rfl (by decide) (by decide) (by omega) (by omega) ?_ | refine sg_iinc (pc := 54) (dc_X7_reverse_54.1.1.1.1) rfl (by decide) (by decide) ?_
          refine sg_goto (pc := 57) (tgt := 31) (dc_X7_reverse_54.1.1.1.2) (by decide) ?_
          refine sg_lsub (lv' := [(5, _), (4, _), (3, _), (2, _), (0, _), (1, _)]) ⟨rfl, rfl, rfl, rfl, rfl, rfl, trivial⟩ ?_
          exact ih _ (p + 1) _ _ _ _ (md_Et E1 (md_Et (md_TE t46) (md_TE t50))) t50.2.2 (by omega) (by rw [jsum, ← js]; split <;> omega) (by omega) (by omega) (by omega)
    refine sg_lsub (lv' := [(5, _), (4, _), (3, _), (2, _), (0, _), (1, _)]) ⟨rfl, rfl, rfl, rfl, rfl, rfl, trivial⟩ ?_
    exact loop31 _ _ 0 _ 0 _ _ (md_E0) (md_AE T15.2.2 E20) (by omega) rfl (by omega) (by omega) (Nat.lt_succ_self _)
  · refine sg_iconst (pc := 12) (z := 0) (dc_X7_reverse_0.1.2.2.1) (by decide) ?_
    refine sg_iret (pc := 13) (dc_X7_reverse_0.1.2.2.2) rfl (by first | exact Nat.le_of_ble_eq_true rfl | omega) (by first | exact Nat.le_of_ble_eq_true rfl | omega) ?_
    exact hQ _ _ (by assumption)

set_option maxRecDepth 100000 in
set_option maxHeartbeats 800000 in
theorem s_X7_init {w : sg_W} {Q : sg_O → sg_H → Prop} {h : sg_H} (g : sg_G w) {d : Nat} (hd : 6 ≤ d) {M : Nat} (hM : h.2 M = some (8, [sg_i 0, sg_n, sg_n, sg_i 0])) (hk : md_K w h) (hQ : ∀ f' : Nat → Option sg_E, md_M w (h.1 + 8, f') M → (∀ i : Int, 0 ≤ i → i < 6 → md_n (h.1 + 8, f') (md_a (h.1 + 8, f') (md_r (h.1 + 8, f') M) i) = 0) → (∀ q, q ≠ M → q < h.1 → f' q = h.2 q) → Q (.inl none) (h.1 + 8, f')) : sg_C w mi_X7_init d 8 9 [sg_r M] h Q := by
  refine sg_of pn_X7 (Nat.le_of_ble_eq_true rfl) ?_
  obtain ⟨D, hZ, hD1, hD⟩ := hk.2.2.2.1
  refine sg_frs (fun hf => ?_)
  have hMl := hf _ _ hM
  refine sg_aload_n (pc := 0) (j := 0) (dc_X7_init_0.1.1.1.1) rfl rfl ?_
  refine sg_objInit (pc := 1) g (dc_X7_init_0.1.1.1.2) mo_X7_1 mo_in mo_co (Nat.le_of_ble_eq_true rfl) (by omega) ?_
  refine sg_aload_n (pc := 4) (j := 0) (dc_X7_init_0.1.1.2.1) rfl rfl ?_
  refine sg_bipush (pc := 5) (z := 6) (dc_X7_init_0.1.1.2.2) (by decide) ?_
  refine sg_anewA (t := 110) (N := 6) (T := .int) (pc := 7) g (dc_X7_init_0.1.2.1.1) cl_X7_7 av_110 rfl (by decide) (by decide) (by omega) (by omega) (by omega) (by omega) ?_
  try dsimp only
  refine sg_dup (pc := 10) (dc_X7_init_0.1.2.1.2) rfl ?_
  refine sg_iconst (pc := 11) (z := 0) (dc_X7_init_0.1.2.2.1) (by decide) ?_
  refine sg_iconst (pc := 12) (z := 0) (dc_X7_init_0.1.2.2.2) (by decide) ?_
  refine sg_newa (t := 100) (N := 0) (pc := 13) g (dc_X7_init_0.2.1.1.1) ac_int rfl (by decide) (by decide) rfl rfl (by decide) (by omega) (by omega) (by omega) (by omega) ?_
  try dsimp only
  refine sg_aast (pc := 15) g (dc_X7_init_0.2.1.1.2) (by first | assumption | (repeat (first | with_reducible exact sg_up_s | with_reducible refine (sg_up_n (by omega)).trans ?_)) <;> assumption) (by first | assumption | (repeat (first | with_reducible exact sg_up_s | with_reducible refine (sg_up_n (by omega)).trans ?_)) <;> assumption) (by decide) (by decide) md_as (by decide) (Nat.le_of_ble_eq_true rfl) ?_
  try dsimp only
  refine sg_dup (pc := 16) (dc_X7_init_0.2.1.2.1) rfl ?_
  refine sg_iconst (pc := 17) (z := 1) (dc_X7_init_0.2.1.2.2) (by decide) ?_
  refine sg_iconst (pc := 18) (z := 0) (dc_X7_init_0.2.2.1.1) (by decide) ?_
  refine sg_newa (t := 100) (N := 0) (pc := 19) g (dc_X7_init_0.2.2.1.2) ac_int rfl (by decide) (by decide) rfl rfl (by decide) (by omega) (by omega) (by omega) (by omega) ?_
  try dsimp only
  refine sg_aast (pc := 21) g (dc_X7_init_0.2.2.2.1) (by first | assumption | (repeat (first | with_reducible exact sg_up_s | with_reducible refine (sg_up_n (by omega)).trans ?_)) <;> assumption) (by first | assumption | (repeat (first | with_reducible exact sg_up_s | with_reducible refine (sg_up_n (by omega)).trans ?_)) <;> assumption) (by decide) (by decide) md_as (by decide) (Nat.le_of_ble_eq_true rfl) ?_
  try dsimp only
  refine sg_dup (pc := 22) (dc_X7_init_0.2.2.2.2) rfl ?_
  refine sg_iconst (pc := 23) (z := 2) (dc_X7_init_23.1.1.1.1) (by decide) ?_
  refine sg_iconst (pc := 24) (z := 0) (dc_X7_init_23.1.1.1.2) (by decide) ?_
  refine sg_newa (t := 100) (N := 0) (pc := 25) g (dc_X7_init_23.1.1.2.1) ac_int rfl (by decide) (by decide) rfl rfl (by decide) (by omega) (by omega) (by omega) (by omega) ?_
  try dsimp only
  refine sg_aast (pc := 27) g (dc_X7_init_23.1.1.2.2) (by first | assumption | (repeat (first | with_reducible exact sg_up_s | with_reducible refine (sg_up_n (by omega)).trans ?_)) <;> assumption) (by first | assumption | (repeat (first | with_reducible exact sg_up_s | with_reducible refine (sg_up_n (by omega)).trans ?_)) <;> assumption) (by decide) (by decide) md_as (by decide) (Nat.le_of_ble_eq_true rfl) ?_
  try dsimp only
  refine sg_dup (pc := 28) (dc_X7_init_23.1.2.1.1) rfl ?_
  refine sg_iconst (pc := 29) (z := 3) (dc_X7_init_23.1.2.1.2) (by decide) ?_
  refine sg_iconst (pc := 30) (z := 0) (dc_X7_init_23.1.2.2.1) (by decide) ?_
  refine sg_newa (t := 100) (N := 0) (pc := 31) g (dc_X7_init_23.1.2.2.2) ac_int rfl (by decide) (by decide) rfl rfl (by decide) (by omega) (by omega) (by omega) (by omega) ?_
  try dsimp only
  refine sg_aast (pc := 33) g (dc_X7_init_23.2.1.1.1) (by first | assumption | (repeat (first | with_reducible exact sg_up_s | with_reducible refine (sg_up_n (by omega)).trans ?_)) <;> assumption) (by first | assumption | (repeat (first | with_reducible exact sg_up_s | with_reducible refine (sg_up_n (by omega)).trans ?_)) <;> assumption) (by decide) (by decide) md_as (by decide) (Nat.le_of_ble_eq_true rfl) ?_
  try dsimp only
  refine sg_dup (pc := 34) (dc_X7_init_23.2.1.1.2) rfl ?_
  refine sg_iconst (pc := 35) (z := 4) (dc_X7_init_23.2.1.2.1) (by decide) ?_
  refine sg_iconst (pc := 36) (z := 0) (dc_X7_init_23.2.1.2.2) (by decide) ?_
  refine sg_newa (t := 100) (N := 0) (pc := 37) g (dc_X7_init_23.2.2.1.1) ac_int rfl (by decide) (by decide) rfl rfl (by decide) (by omega) (by omega) (by omega) (by omega) ?_
  try dsimp only
  refine sg_aast (pc := 39) g (dc_X7_init_23.2.2.1.2) (by first | assumption | (repeat (first | with_reducible exact sg_up_s | with_reducible refine (sg_up_n (by omega)).trans ?_)) <;> assumption) (by first | assumption | (repeat (first | with_reducible exact sg_up_s | with_reducible refine (sg_up_n (by omega)).trans ?_)) <;> assumption) (by decide) (by decide) md_as (by decide) (Nat.le_of_ble_eq_true rfl) ?_
  try dsimp only
  refine sg_dup (pc := 40) (dc_X7_init_23.2.2.2.1) rfl ?_
  refine sg_iconst (pc := 41) (z := 5) (dc_X7_init_23.2.2.2.2) (by decide) ?_
  refine sg_iconst (pc := 42) (z := 0) (dc_X7_init_42.1.1.1.1) (by decide) ?_
  refine sg_newa (t := 100) (N := 0) (pc := 43) g (dc_X7_init_42.1.1.1.2) ac_int rfl (by decide) (by decide) rfl rfl (by decide) (by omega) (by omega) (by omega) (by omega) ?_
  try dsimp only
  refine sg_aast (pc := 45) g (dc_X7_init_42.1.1.2.1) (by first | assumption | (repeat (first | with_reducible exact sg_up_s | with_reducible refine (sg_up_n (by omega)).trans ?_)) <;> assumption) (by first | assumption | (repeat (first | with_reducible exact sg_up_s | with_reducible refine (sg_up_n (by omega)).trans ?_)) <;> assumption) (by decide) (by decide) md_as (by decide) (Nat.le_of_ble_eq_true rfl) ?_
  try dsimp only
  refine sg_putf (pc := 46) g (dc_X7_init_42.1.1.2.2) fk_X7_9 (by first | assumption | (repeat (first | with_reducible exact sg_up_s | with_reducible refine (sg_up_n (by omega)).trans ?_)) <;> assumption) sg_ft_a ?_
  try dsimp only
  refine sg_aload_n (pc := 49) (j := 0) (dc_X7_init_42.1.2.1.1) rfl rfl ?_
  refine sg_new (pc := 50) g (dc_X7_init_42.1.2.1.2) nk_X7_15 (by first | exact Nat.le_of_ble_eq_true rfl | omega) (by first | exact Nat.le_of_ble_eq_true rfl | omega) ?_
  try dsimp only
  refine sg_dup (pc := 53) (dc_X7_init_42.1.2.2.1) rfl ?_
  refine sg_cI0 (pc := 54) (d' := d - 1) (mc' := 0) (ms' := 0) g (dc_X7_init_42.1.2.2.2) cb_Jx4a65c_init_da8c8 rfl rfl ml_X7_17 mn_Jx4a65c_init_da8c8 (Nat.le_of_ble_eq_true rfl) (by first | exact jl_d0 hd rfl | omega) (by first | exact Nat.le_of_ble_eq_true rfl | omega) (by first | exact Nat.le_of_ble_eq_true rfl | omega) ?_
  refine s_al_init g (by first | exact jl_d1 hd rfl | omega) hZ (by with_reducible exact sg_up_s) (fun f f1 f2 => ?_)
  refine sg_K0 ?_
  try dsimp only
  have fM : f M = some (8, [sg_i 0, sg_r h.1, sg_n, sg_i 0]) := (f2 M (by omega)).trans ((sg_up_n (by omega)).trans sg_up_s)
  have fR : f h.1 = some (110, [sg_r (h.1 + 1), sg_r (h.1 + 2), sg_r (h.1 + 3), sg_r (h.1 + 4), sg_r (h.1 + 5), sg_r (h.1 + 6)]) := (f2 h.1 (by omega)).trans ((sg_up_n (by omega)).trans ((sg_up_n (by omega)).trans sg_up_s))
  have fA : ∀ i : Nat, 1 ≤ i → i ≤ 6 → f (h.1 + i) = some (100, []) := by
    intro i i1 i6
    refine (f2 (h.1 + i) (by omega)).trans ?_
    rcases (show i = 1 ∨ i = 2 ∨ i = 3 ∨ i = 4 ∨ i = 5 ∨ i = 6 by omega) with rfl | rfl | rfl | rfl | rfl | rfl <;> (repeat (with_reducible refine (sg_up_n (by omega)).trans ?_)) <;> exact sg_up_s
  have fO : ∀ q, q ≠ M → q < h.1 → f q = h.2 q := by
    intro q q1 q2
    refine (f2 q (by omega)).trans ?_
    (repeat (with_reducible refine (sg_up_n (by omega)).trans ?_))
    rfl
  refine sg_putF (pc := 57) g (dc_X7_init_42.2.1.1.1) fk_X7_18 rfl fM sg_ft_o ?_
  try dsimp only
  refine sg_vret (pc := 60) (dc_X7_init_42.2.1.1.2) rfl (by first | exact Nat.le_of_ble_eq_true rfl | omega) (by first | exact Nat.le_of_ble_eq_true rfl | omega) ?_
  have nM : M < h.1 + 8 := by omega
  have kp : ∀ q e, h.2 q = some e → e.1 ≠ 8 → sg_up f M (8, [sg_i 0, sg_r h.1, sg_r (h.1 + 7), sg_i 0]) q = some e := fun q e he n8 => by
    have ql := hf q e he
    have nq : q ≠ M := fun z => by rw [z, hM] at he; cases he; exact n8 rfl
    exact (sg_up_n nq).trans ((fO q nq ql).trans he)
  have hP : md_P h (h.1 + 8, sg_up f M (8, [sg_i 0, sg_r h.1, sg_r (h.1 + 7), sg_i 0])) := ⟨Nat.le_add_right _ _, fun q hq e he n1 => kp q e he (fun z => by rw [z] at n1; exact absurd n1 (by simp))⟩
  have aA : ∀ (c i : Nat), 1 ≤ i → i ≤ 6 → md_A c (h.1 + 8, sg_up f M (8, [sg_i 0, sg_r h.1, sg_r (h.1 + 7), sg_i 0])) (h.1 + i) 0 := fun c i i1 i6 => ⟨by show h.1 + i < h.1 + 8; omega, [], rfl, fun z hz => (nomatch hz), (sg_up_n (by omega)).trans (fA i i1 i6)⟩
  have hR : md_R (h.1 + 8, sg_up f M (8, [sg_i 0, sg_r h.1, sg_r (h.1 + 7), sg_i 0])) h.1 := ⟨by show h.1 < h.1 + 8; omega, fun i => h.1 + (i + 1), fun _ => 0, (sg_up_n (by omega)).trans fR, fun i hi => ⟨aA 0 (i + 1) (by omega) (by omega), Nat.zero_le _⟩, fun i hi hj => ⟨aA 1 (i + 1) (by omega) (by omega), Nat.zero_le _⟩⟩
  have hL : md_L w (h.1 + 8, sg_up f M (8, [sg_i 0, sg_r h.1, sg_r (h.1 + 7), sg_i 0])) (h.1 + 7) := ⟨by show h.1 + 7 < h.1 + 8; omega, 0, 0, D, 313, [], (sg_up_n (by omega)).trans f1, by have := hD1; show (D : Nat) < h.1 + 8; exact Nat.lt_add_right 8 hD1, kp D _ hD (by decide), Or.inr ⟨rfl, rfl, hZ⟩, by decide, by decide, by decide, fun j hj => absurd hj (by omega)⟩
  refine hQ (sg_up f M (8, [sg_i 0, sg_r h.1, sg_r (h.1 + 7), sg_i 0])) ⟨nM, md_KP hk hP, 0, 0, h.1, h.1 + 7, sg_up_s, by decide, hR, hL⟩ (fun i i0 i1 => ?_) (fun q q1 q2 => (sg_up_n q1).trans (fO q q1 q2))
  rw [md_re (h := (h.1 + 8, sg_up f M (8, [sg_i 0, sg_r h.1, sg_r (h.1 + 7), sg_i 0]))) sg_up_s]
  obtain ⟨c, L, a, n, p1, p2, p3, p4⟩ := md_any hR i0 i1
  rw [md_ae p1 p3, md_ne p4]
  have pL : L = [sg_r (h.1 + 1), sg_r (h.1 + 2), sg_r (h.1 + 3), sg_r (h.1 + 4), sg_r (h.1 + 5), sg_r (h.1 + 6)] := by
    have := p1.symm.trans ((sg_up_n (by omega)).trans fR)
    cases this; rfl
  have ea : ∃ j, 1 ≤ j ∧ j ≤ 6 ∧ a = h.1 + j := by
    subst pL
    rcases (show i = 0 ∨ i = 1 ∨ i = 2 ∨ i = 3 ∨ i = 4 ∨ i = 5 by omega) with rfl | rfl | rfl | rfl | rfl | rfl
    · cases p3; exact ⟨1, by decide, by decide, rfl⟩
    · cases p3; exact ⟨2, by decide, by decide, rfl⟩
    · cases p3; exact ⟨3, by decide, by decide, rfl⟩
    · cases p3; exact ⟨4, by decide, by decide, rfl⟩
    · cases p3; exact ⟨5, by decide, by decide, rfl⟩
    · cases p3; exact ⟨6, by decide, by decide, rfl⟩
  obtain ⟨j, j1, j6, rfl⟩ := ea
  have e0 := (aA 0 j j1 j6)
  have e1 := md_ne e0
  rw [← md_ne p4, e1]

