/-- what stands in an array of numbers at a place -/
def md_v (h : sg_H) (a : Nat) (i : Int) : Int := match h.2 a with
  | some (_, L) => (match L[i.toNat]? with | some (.inl z) => z | _ => 0)
  | _ => 0
theorem md_alv {w : sg_W} {mi : sg_M} {d mc ms : Nat} {Q : sg_O → sg_H → Prop} {pc : Nat} {lv : List (Nat × sg_V)} {st : List sg_V} {h : sg_H} {k n : Nat} {c a N : Nat} {z : Int} (hd : decode mi.2.1 pc = .ok (.iaload, 1)) (ha : md_A c h a N) (h0 : 0 ≤ z) (h1 : z < (N : Int)) (K : ck_v c (md_v h a z) → sg_R w mi d mc ms Q (pc + 1) lv (sg_i (md_v h a z) :: st) h k n) : sg_R w mi d mc ms Q pc lv (sg_i z :: sg_r a :: st) h k n := by
  obtain ⟨g1, zs, h2, h3, h4⟩ := ha
  have hl : z.toNat < zs.length := by omega
  have e : md_v h a z = zs[z.toNat] := by
    unfold md_v
    rw [h4]
    simp only []
    rw [ck_at hl]
  rw [e] at K
  exact sg_iald hd h4 rfl h0 (ck_at hl) (K (h3 _ (List.getElem_mem _)))
/-- the CODE at a place, and how many there are from a place on -/
def jcd (v : Int → Int) (N p : Int) : Int := if fn_high (v p) = 1 ∧ p + 1 < N ∧ fn_low (v (p + 1)) = 1 then 65536 + (v p - 55296) * 1024 + (v (p + 1) - 56320) else v p
def jk (v : Int → Int) (N : Int) : Nat → Int → Int
  | 0, _ => 0
  | f + 1, p => if p < N then 1 + jk v N f (p + (if jcd v N p < 65536 then 1 else 2)) else 0
theorem jk_end {v : Int → Int} {N p : Int} (h : N ≤ p) : ∀ f, jk v N f p = 0
  | 0 => rfl
  | f + 1 => if_neg (by omega)
theorem jk_go {v : Int → Int} {N p : Int} {f : Nat} (h : p < N) : jk v N (f + 1) p = 1 + jk v N f (p + (if jcd v N p < 65536 then 1 else 2)) := if_pos h
/-- h has one array more than h0, at h0's end, and this stands in it -/
def md_F (c : Nat) (h0 h : sg_H) (xs : List Int) : Prop := h.1 = h0.1 + 1 ∧ (∀ q, q ≠ h0.1 → h.2 q = h0.2 q) ∧ (∀ z ∈ xs, ck_v c z) ∧ h.2 h0.1 = some (100, xs.map sg_i)
theorem md_FT {c n : Nat} {h0 h : sg_H} {xs : List Int} (x : md_F c h0 h xs) (hn : xs.length = n) : md_T c h0 h n := ⟨x.1, x.2.1, by rw [x.1]; exact Nat.lt_succ_self _, xs, hn, x.2.2.1, x.2.2.2⟩
theorem md_newF {c N : Nat} {h : sg_H} : md_F c h (h.1 + 1, sg_up h.2 h.1 (100, List.replicate N (sg_i 0))) (List.replicate N 0) :=
  ⟨rfl, fun q hq => sg_up_n hq, fun z hz => by rw [List.eq_of_mem_replicate hz]; exact ck_vz, by rw [show ((h.1 + 1, sg_up h.2 h.1 (100, List.replicate N (sg_i 0))) : sg_H).2 h.1 = _ from sg_up_s]; simp⟩
theorem md_astF {w : sg_W} {mi : sg_M} {d mc ms : Nat} {Q : sg_O → sg_H → Prop} {pc : Nat} {lv : List (Nat × sg_V)} {st : List sg_V} {h h0 : sg_H} {k n : Nat} {c : Nat} {xs : List Int} {z x : Int} (hd : decode mi.2.1 pc = .ok (.iastore, 1)) (t : md_F c h0 h xs) (hv : ck_v c x) (g0 : 0 ≤ z) (g1 : z.toNat < xs.length) (K : ∀ h' : sg_H, md_F c h0 h' (xs.set z.toNat x) → sg_R w mi d mc ms Q (pc + 1) lv st h' k n) : sg_R w mi d mc ms Q pc lv (sg_i x :: sg_i z :: sg_r h0.1 :: st) h k n := by
  obtain ⟨t1, t2, t3, t4⟩ := t
  refine sg_iast hd t4 g0 (by rw [List.length_map]; exact g1) (K (h.1, sg_up h.2 h0.1 (100, (xs.map sg_i).set z.toNat (sg_i x))) ⟨t1, fun q hq => (sg_up_n hq).trans (t2 q hq), fun y hy => ?_, ?_⟩)
  · rcases List.mem_or_eq_of_mem_set hy with q | rfl
    · exact t3 _ q
    · exact hv
  · rw [show ((h.1, sg_up h.2 h0.1 (100, (xs.map sg_i).set z.toNat (sg_i x))) : sg_H).2 h0.1 = _ from sg_up_s, List.map_set]
theorem md_Fv {c : Nat} {h0 h : sg_H} {xs : List Int} (x : md_F c h0 h xs) (i : Int) : md_v h h0.1 i = xs.getD i.toNat 0 := by
  unfold md_v
  rw [x.2.2.2]
  simp only [List.getElem?_map, List.getD_eq_getElem?_getD]
  cases xs[i.toNat]? <;> rfl
theorem md_tE {w : sg_W} {h0 h : sg_H} {M : Nat} (x : md_M w h0 M) (e : md_E h0 h) : md_t h M = md_t h0 M := by
  obtain ⟨h1, -⟩ := x
  unfold md_t
  rw [e.2 M h1]
set_option maxRecDepth 100000 in
theorem s_X7_codeOfR {w : sg_W} {Q : sg_O → sg_H → Prop} {h : sg_H} (g : sg_G w) {d : Nat} (hd : 5 ≤ d) {M : Nat} {trk p : Int} (hv : 0 ≤ trk ∧ trk < 2 ∧ 0 ≤ p ∧ p < ((md_n h (md_a h (md_r h M) (4 + trk)) : Nat) : Int)) (hx : md_M w h M) (hQ : ∀ v : Int, v = jcd (md_v h (md_a h (md_r h M) (4 + trk))) ((md_n h (md_a h (md_r h M) (4 + trk)) : Nat) : Int) p → 0 ≤ v → v ≤ 1114111 → Q (.inl (some (sg_i v))) h) : sg_C w mi_X7_codeOf d 0 0 [sg_r M, sg_i trk, sg_i p] h Q := by
  refine sg_of pn_X7 (Nat.le_of_ble_eq_true rfl) ?_
  refine sg_aload_n (pc := 0) (j := 0) (dc_X7_codeOf_0.1.1.1.1) rfl rfl ?_
  refine md_grw (pc := 1) g (dc_X7_codeOf_0.1.1.1.2) fk_X7_9 (by assumption) (fun r1 => ?_)
  refine sg_iconst (pc := 4) (z := 4) (dc_X7_codeOf_0.1.1.2.1) (by decide) ?_
  refine sg_iload_n (pc := 5) (j := 1) (dc_X7_codeOf_0.1.1.2.2) rfl rfl ?_
  first | refine sg_iaddB (pc := 6) (dc_X7_codeOf_0.1.2.1.1) (by omega) (by omega) ?_ | refine sg_iadd (pc := 6) (dc_X7_codeOf_0.1.2.1.1) ?_
  first | refine md_alr (pc := 7) (dc_X7_codeOf_0.1.2.1.2) (by assumption) (by omega) (by omega) (fun A7 l7 => ?_) | refine md_alt (pc := 7) (dc_X7_codeOf_0.1.2.1.2) (by assumption) (by omega) (by omega) (fun A7 l7 => ?_)
  refine sg_astore_n (pc := 8) (j := 3) (dc_X7_codeOf_0.1.2.2.1) rfl (by decide) ?_
  refine sg_aload_n (pc := 9) (j := 3) (dc_X7_codeOf_0.1.2.2.2) rfl rfl ?_
  refine sg_iload_n (pc := 10) (j := 2) (dc_X7_codeOf_0.2.1.1.1) rfl rfl ?_
  refine md_alv (pc := 11) (dc_X7_codeOf_0.2.1.1.2) (by assumption) (by omega) (by omega) (fun g11 => ?_)
  have q11 := ck_v1.mp g11
  refine sg_cS1 (pc := 12) (d' := d - 1) (mc' := 0) (ms' := 0) g (dc_X7_codeOf_0.2.1.2.1) cb_X7_isHigh ml_X7_122 ms_X7_isHigh (Nat.le_of_ble_eq_true rfl) (by first | exact jl_d0 hd rfl | omega) (by first | exact Nat.le_of_ble_eq_true rfl | omega) (by first | exact Nat.le_of_ble_eq_true rfl | omega) ?_
  refine s_X7_isHigh g (by first | exact jl_d1 hd rfl | omega) (fun z12 h12 b12 => sg_K1 ?_)
  (try simp only [fm_no, fm_one, fn_betw, fn_sign, fn_radix, fn_high, fn_low] at h12)
  refine sg_if_eq (pc := 15) (tgt := 51) (dc_X7_codeOf_0.2.1.2.2) (by decide) (fun c15 => ?_) (fun c15 => ?_)
  · refine sg_aload_n (pc := 51) (j := 3) (dc_X7_codeOf_44.1.2.2) rfl rfl ?_
    refine sg_iload_n (pc := 52) (j := 2) (dc_X7_codeOf_44.2.1.1) rfl rfl ?_
    refine md_alv (pc := 53) (dc_X7_codeOf_44.2.1.2) (by assumption) (by omega) (by omega) (fun g53 => ?_)
    have q53 := ck_v1.mp g53
    refine sg_iret (pc := 54) (dc_X7_codeOf_44.2.2.1) rfl (by first | exact Nat.le_of_ble_eq_true rfl | omega) (by first | exact Nat.le_of_ble_eq_true rfl | omega) ?_
    exact hQ _ (by unfold jcd fn_high fn_low; first | omega | ((repeat' split) <;> omega)) (by omega) (by omega)
  · refine sg_iload_n (pc := 18) (j := 2) (dc_X7_codeOf_0.2.2.1.1) rfl rfl ?_
    refine sg_iconst (pc := 19) (z := 1) (dc_X7_codeOf_0.2.2.1.2) (by decide) ?_
    first | refine sg_iaddB (pc := 20) (dc_X7_codeOf_0.2.2.2.1) (by omega) (by omega) ?_ | refine sg_iadd (pc := 20) (dc_X7_codeOf_0.2.2.2.1) ?_
    refine sg_aload_n (pc := 21) (j := 3) (dc_X7_codeOf_0.2.2.2.2) rfl rfl ?_
    refine md_len (pc := 22) (dc_X7_codeOf_22.1.1.1.1) (by assumption) (by omega) ?_
    refine sg_icmp_ge (pc := 23) (tgt := 51) (dc_X7_codeOf_22.1.1.1.2) (by decide) (fun c23 => ?_) (fun c23 => ?_)
    · refine sg_aload_n (pc := 51) (j := 3) (dc_X7_codeOf_44.1.2.2) rfl rfl ?_
      refine sg_iload_n (pc := 52) (j := 2) (dc_X7_codeOf_44.2.1.1) rfl rfl ?_
      refine md_alv (pc := 53) (dc_X7_codeOf_44.2.1.2) (by assumption) (by omega) (by omega) (fun g53 => ?_)
      have q53 := ck_v1.mp g53
      refine sg_iret (pc := 54) (dc_X7_codeOf_44.2.2.1) rfl (by first | exact Nat.le_of_ble_eq_true rfl | omega) (by first | exact Nat.le_of_ble_eq_true rfl | omega) ?_
      exact hQ _ (by unfold jcd fn_high fn_low; first | omega | ((repeat' split) <;> omega)) (by omega) (by omega)
    · refine sg_aload_n (pc := 26) (j := 3) (dc_X7_codeOf_22.1.1.2.1) rfl rfl ?_
      refine sg_iload_n (pc := 27) (j := 2) (dc_X7_codeOf_22.1.1.2.2) rfl rfl ?_
      refine sg_iconst (pc := 28) (z := 1) (dc_X7_codeOf_22.1.2.1.1) (by decide) ?_
      first | refine sg_iaddB (pc := 29) (dc_X7_codeOf_22.1.2.1.2) (by omega) (by omega) ?_ | refine sg_iadd (pc := 29) (dc_X7_codeOf_22.1.2.1.2) ?_
      refine md_alv (pc := 30) (dc_X7_codeOf_22.1.2.2.1) (by assumption) (by omega) (by omega) (fun g30 => ?_)
      have q30 := ck_v1.mp g30
      refine sg_cS1 (pc := 31) (d' := d - 1) (mc' := 0) (ms' := 0) g (dc_X7_codeOf_22.1.2.2.2) cb_X7_isLow ml_X7_125 ms_X7_isLow (Nat.le_of_ble_eq_true rfl) (by first | exact jl_d0 hd rfl | omega) (by first | exact Nat.le_of_ble_eq_true rfl | omega) (by first | exact Nat.le_of_ble_eq_true rfl | omega) ?_
      refine s_X7_isLow g (by first | exact jl_d1 hd rfl | omega) (fun z31 h31 b31 => sg_K1 ?_)
      (try simp only [fm_no, fm_one, fn_betw, fn_sign, fn_radix, fn_high, fn_low] at h31)
      refine sg_if_eq (pc := 34) (tgt := 51) (dc_X7_codeOf_22.2.1.1.1) (by decide) (fun c34 => ?_) (fun c34 => ?_)
      · refine sg_aload_n (pc := 51) (j := 3) (dc_X7_codeOf_44.1.2.2) rfl rfl ?_
        refine sg_iload_n (pc := 52) (j := 2) (dc_X7_codeOf_44.2.1.1) rfl rfl ?_
        refine md_alv (pc := 53) (dc_X7_codeOf_44.2.1.2) (by assumption) (by omega) (by omega) (fun g53 => ?_)
        have q53 := ck_v1.mp g53
        refine sg_iret (pc := 54) (dc_X7_codeOf_44.2.2.1) rfl (by first | exact Nat.le_of_ble_eq_true rfl | omega) (by first | exact Nat.le_of_ble_eq_true rfl | omega) ?_
        exact hQ _ (by unfold jcd fn_high fn_low; first | omega | ((repeat' split) <;> omega)) (by omega) (by omega)
      · refine sg_aload_n (pc := 37) (j := 3) (dc_X7_codeOf_22.2.1.1.2) rfl rfl ?_
        refine sg_iload_n (pc := 38) (j := 2) (dc_X7_codeOf_22.2.1.2.1) rfl rfl ?_
        refine md_alv (pc := 39) (dc_X7_codeOf_22.2.1.2.2) (by assumption) (by omega) (by omega) (fun g39 => ?_)
        have q39 := ck_v1.mp g39
        refine sg_aload_n (pc := 40) (j := 3) (dc_X7_codeOf_22.2.2.1.1) rfl rfl ?_
        refine sg_iload_n (pc := 41) (j := 2) (dc_X7_codeOf_22.2.2.1.2) rfl rfl ?_
        refine sg_iconst (pc := 42) (z := 1) (dc_X7_codeOf_22.2.2.2.1) (by decide) ?_
        first | refine sg_iaddB (pc := 43) (dc_X7_codeOf_22.2.2.2.2) (by omega) (by omega) ?_ | refine sg_iadd (pc := 43) (dc_X7_codeOf_22.2.2.2.2) ?_
        refine md_alv (pc := 44) (dc_X7_codeOf_44.1.1.1) (by assumption) (by omega) (by omega) (fun g44 => ?_)
        have q44 := ck_v1.mp g44
        refine sg_cS2 (pc := 45) (d' := d - 1) (mc' := 0) (ms' := 0) g (dc_X7_codeOf_44.1.1.2) cb_X7_both ml_X7_147 ms_X7_both (Nat.le_of_ble_eq_true rfl) (by first | exact jl_d0 hd rfl | omega) (by first | exact Nat.le_of_ble_eq_true rfl | omega) (by first | exact Nat.le_of_ble_eq_true rfl | omega) ?_
        refine s_X7_both g (by first | exact jl_d1 hd rfl | omega) (fun z45 h45 => sg_K1 ?_)
        refine sg_goto (pc := 48) (tgt := 54) (dc_X7_codeOf_44.1.2.1) (by decide) ?_
        refine sg_iret (pc := 54) (dc_X7_codeOf_44.2.2.1) rfl (by first | exact Nat.le_of_ble_eq_true rfl | omega) (by first | exact Nat.le_of_ble_eq_true rfl | omega) ?_
        exact hQ _ (by unfold jcd fn_high fn_low; first | omega | ((repeat' split) <;> omega)) (by omega) (by omega)

set_option maxRecDepth 100000 in
theorem s_X7_sent {w : sg_W} {Q : sg_O → sg_H → Prop} {h : sg_H} (g : sg_G w) {d : Nat} (hd : 2 ≤ d) {x : Int} (hv : 0 ≤ x ∧ x ≤ 1114111) (hQ : ∀ (h' : sg_H) (m : Nat), 1 ≤ m → m ≤ 2 → (x < 65536 → m = 1) → (65536 ≤ x → m = 2) → md_T 1 h h' m → (x < 65536 → md_v h' h.1 0 = x) → (65536 ≤ x → md_v h' h.1 0 = 55296 + (x - 65536) / 1024 ∧ md_v h' h.1 1 = 56320 + (x - 65536) % 1024) → Q (.inl (some (sg_r h.1))) h') : sg_C w mi_X7_sent d 1 2 [sg_i x] h Q := by
  refine sg_of pn_X7 (Nat.le_of_ble_eq_true rfl) ?_
  refine sg_iload_n (pc := 0) (j := 0) (dc_X7_sent_0.1.1.1.1) rfl rfl ?_
  refine sg_ldc (pc := 1) (z := 65536) g (dc_X7_sent_0.1.1.1.2) cn_X7_128 (by decide) ?_
  refine sg_icmp_ge (pc := 3) (tgt := 16) (dc_X7_sent_0.1.1.2.1) (by decide) (fun c3 => ?_) (fun c3 => ?_)
  · refine sg_iconst (pc := 16) (z := 2) (dc_X7_sent_0.2.1.2.1) (by decide) ?_
    refine sg_newa (t := 100) (N := 2) (pc := 17) g (dc_X7_sent_0.2.1.2.2) ac_int rfl (by decide) (by decide) rfl rfl (by decide) (by omega) (by omega) (by omega) (by omega) ?_
    refine sg_dup (pc := 19) (dc_X7_sent_0.2.2.1.1) rfl ?_
    refine sg_iconst (pc := 20) (z := 0) (dc_X7_sent_0.2.2.1.2) (by decide) ?_
    refine sg_ldc (pc := 21) (z := 55296) g (dc_X7_sent_0.2.2.2.1) cn_X7_118 (by decide) ?_
    refine sg_iload_n (pc := 23) (j := 0) (dc_X7_sent_0.2.2.2.2) rfl rfl ?_
    refine sg_ldc (pc := 24) (z := 65536) g (dc_X7_sent_24.1.1.1.1) cn_X7_128 (by decide) ?_
    first | refine sg_isubB (pc := 26) (dc_X7_sent_24.1.1.1.2) (by omega) (by omega) ?_ | refine sg_isub (pc := 26) (dc_X7_sent_24.1.1.1.2) ?_
    refine sg_sipush (pc := 27) (z := 1024) (dc_X7_sent_24.1.1.2.1) (by decide) ?_
    first | refine sg_idivP (pc := 30) (dc_X7_sent_24.1.1.2.2) (by omega) (by omega) (by omega) ?_ | refine sg_idiv (pc := 30) (dc_X7_sent_24.1.1.2.2) (by first | omega | assumption) ?_
    first | refine sg_iaddB (pc := 31) (dc_X7_sent_24.1.2.1.1) (by omega) (by omega) ?_ | refine sg_iadd (pc := 31) (dc_X7_sent_24.1.2.1.1) ?_
    refine md_astF (pc := 32) (dc_X7_sent_24.1.2.1.2) (md_newF (c := 1)) (by rw [ck_v1]; omega) (by decide) (by first | decide | (rw [List.length_set]; decide)) (fun h32 t32 => ?_)
    refine sg_dup (pc := 33) (dc_X7_sent_24.1.2.2.1) rfl ?_
    refine sg_iconst (pc := 34) (z := 1) (dc_X7_sent_24.1.2.2.2) (by decide) ?_
    refine sg_ldc (pc := 35) (z := 56320) g (dc_X7_sent_24.2.1.1.1) cn_X7_120 (by decide) ?_
    refine sg_iload_n (pc := 37) (j := 0) (dc_X7_sent_24.2.1.1.2) rfl rfl ?_
    refine sg_ldc (pc := 38) (z := 65536) g (dc_X7_sent_24.2.1.2.1) cn_X7_128 (by decide) ?_
    first | refine sg_isubB (pc := 40) (dc_X7_sent_24.2.1.2.2) (by omega) (by omega) ?_ | refine sg_isub (pc := 40) (dc_X7_sent_24.2.1.2.2) ?_
    refine sg_sipush (pc := 41) (z := 1024) (dc_X7_sent_24.2.2.1.1) (by decide) ?_
    first | refine sg_iremP (pc := 44) (dc_X7_sent_24.2.2.1.2) (by omega) (by omega) ?_ | refine sg_irem (pc := 44) (dc_X7_sent_24.2.2.1.2) (by first | omega | assumption) ?_
    first | refine sg_iaddB (pc := 45) (dc_X7_sent_24.2.2.2.1) (by omega) (by omega) ?_ | refine sg_iadd (pc := 45) (dc_X7_sent_24.2.2.2.1) ?_
    refine md_astF (pc := 46) (dc_X7_sent_24.2.2.2.2) t32 (by rw [ck_v1]; omega) (by decide) (by first | decide | (rw [List.length_set]; decide)) (fun h46 t46 => ?_)
    refine sg_aret (pc := 47) dc_X7_sent_47 rfl (by first | exact Or.inl ⟨_, rfl⟩ | exact Or.inr ⟨_, rfl⟩) (by first | exact Nat.le_of_ble_eq_true rfl | omega) (by first | exact Nat.le_of_ble_eq_true rfl | omega) ?_
    first | exact hQ _ 1 (by decide) (by decide) (fun _ => rfl) (fun _ => by omega) (md_FT t12 rfl) (fun _ => md_Fv t12 0) (fun q => absurd q (by omega)) | exact hQ _ 2 (by decide) (by decide) (fun _ => by omega) (fun _ => rfl) (md_FT t46 rfl) (fun q => absurd q (by omega)) (fun _ => ⟨md_Fv t46 0, md_Fv t46 1⟩)
  · refine sg_iconst (pc := 6) (z := 1) (dc_X7_sent_0.1.1.2.2) (by decide) ?_
    refine sg_newa (t := 100) (N := 1) (pc := 7) g (dc_X7_sent_0.1.2.1.1) ac_int rfl (by decide) (by decide) rfl rfl (by decide) (by omega) (by omega) (by omega) (by omega) ?_
    refine sg_dup (pc := 9) (dc_X7_sent_0.1.2.1.2) rfl ?_
    refine sg_iconst (pc := 10) (z := 0) (dc_X7_sent_0.1.2.2.1) (by decide) ?_
    refine sg_iload_n (pc := 11) (j := 0) (dc_X7_sent_0.1.2.2.2) rfl rfl ?_
    refine md_astF (pc := 12) (dc_X7_sent_0.2.1.1.1) (md_newF (c := 1)) (by rw [ck_v1]; omega) (by decide) (by first | decide | (rw [List.length_set]; decide)) (fun h12 t12 => ?_)
    refine sg_goto (pc := 13) (tgt := 47) (dc_X7_sent_0.2.1.1.2) (by decide) ?_
    refine sg_aret (pc := 47) dc_X7_sent_47 rfl (by first | exact Or.inl ⟨_, rfl⟩ | exact Or.inr ⟨_, rfl⟩) (by first | exact Nat.le_of_ble_eq_true rfl | omega) (by first | exact Nat.le_of_ble_eq_true rfl | omega) ?_
    first | exact hQ _ 1 (by decide) (by decide) (fun _ => rfl) (fun _ => by omega) (md_FT t12 rfl) (fun _ => md_Fv t12 0) (fun q => absurd q (by omega)) | exact hQ _ 2 (by decide) (by decide) (fun _ => by omega) (fun _ => rfl) (md_FT t46 rfl) (fun q => absurd q (by omega)) (fun _ => ⟨md_Fv t46 0, md_Fv t46 1⟩)

