/-! THE REFERENCE'S ARRAYS, BY WHAT STANDS IN THEM -/
def md_X (c : Nat) (h : sg_H) (a : Nat) (L : List Int) : Prop := a < h.1 ∧ (∀ z ∈ L, ck_v c z) ∧ h.2 a = some (100, L.map sg_i)
theorem md_XA {c : Nat} {h : sg_H} {a : Nat} {L : List Int} (x : md_X c h a L) : md_A c h a L.length := ⟨x.1, L, rfl, x.2.1, x.2.2⟩
theorem md_AX {c : Nat} {h : sg_H} {a n : Nat} (x : md_A c h a n) : md_X c h a (md_l h a) ∧ (md_l h a).length = n := by
  obtain ⟨h1, h2, h3⟩ := md_Al x
  exact ⟨⟨x.1, h2, h3⟩, h1⟩
theorem md_XE {c : Nat} {h0 h : sg_H} {a : Nat} {L : List Int} (x : md_X c h0 a L) (e : md_E h0 h) : md_X c h a L := ⟨Nat.lt_of_lt_of_le x.1 e.1, x.2.1, (e.2 a x.1).trans x.2.2⟩
theorem md_FE {c : Nat} {h0 h : sg_H} {L : List Int} (f : md_F c h0 h L) : md_E h0 h := ⟨by rw [f.1]; omega, fun q hq => f.2.1 q (by omega)⟩
theorem md_FX {c : Nat} {h0 h : sg_H} {L : List Int} (f : md_F c h0 h L) : md_X c h h0.1 L := ⟨by rw [f.1]; omega, f.2.2.1, f.2.2.2⟩
theorem md_X0 {c : Nat} {h : sg_H} {a : Nat} {L : List Int} (x : md_X c h a L) : md_X 0 h a L := ⟨x.1, fun _ _ => ck_v0, x.2.2⟩
theorem md_xl {c : Nat} {h : sg_H} {a : Nat} {L : List Int} (x : md_X c h a L) : md_l h a = L := md_le x.2.2
theorem md_Fw {c : Nat} {h0 h : sg_H} {L M : List Int} (f : md_F c h0 h L) (e : L = M) : md_F c h0 h M := by rw [← e]; exact f
section
variable {w : sg_W} {mi : sg_M} {d mc ms : Nat} {Q : sg_O → sg_H → Prop} {pc : Nat} {lv : List (Nat × sg_V)} {st : List sg_V} {h h0 : sg_H} {k n : Nat} {c a : Nat} {L : List Int}
theorem md_xlen (hd : decode mi.2.1 pc = .ok (.arraylength, 1)) (ha : md_X c h a L) (hN : L.length ≤ 1000) (K : sg_R w mi d mc ms Q (pc + 1) lv (sg_i (L.length : Int) :: st) h k n) : sg_R w mi d mc ms Q pc lv (sg_r a :: st) h k n := md_len hd (md_XA ha) hN K
theorem md_xld {z : Int} (hd : decode mi.2.1 pc = .ok (.iaload, 1)) (ha : md_X c h a L) (h0 : 0 ≤ z) (h1 : z < (L.length : Int)) (K : ck_v c (L.getD z.toNat 0) → sg_R w mi d mc ms Q (pc + 1) lv (sg_i (L.getD z.toNat 0) :: st) h k n) : sg_R w mi d mc ms Q pc lv (sg_i z :: sg_r a :: st) h k n := by
  obtain ⟨g1, h3, h4⟩ := ha
  have hl : z.toNat < L.length := by omega
  have e : L.getD z.toNat 0 = L[z.toNat] := by rw [List.getD_eq_getElem?_getD, List.getElem?_eq_getElem hl]; rfl
  rw [e] at K
  exact sg_iald hd h4 rfl h0 (ck_at hl) (K (h3 _ (List.getElem_mem _)))
end
/-- the first k of S, the rest not yet -/
def fx (S : List Int) (k : Nat) : List Int := S.take k ++ List.replicate (S.length - k) 0
theorem fx_len {S : List Int} {k : Nat} : (fx S k).length = S.length := by
  unfold fx
  rw [List.length_append, List.length_take, List.length_replicate]
  omega
theorem fx_0 {S : List Int} {k n : Nat} (hk : k = 0) (hn : S.length = n) : List.replicate n 0 = fx S k := by
  subst hk
  unfold fx
  rw [hn, List.take_zero, List.nil_append, Nat.sub_zero]
theorem fx_e {S : List Int} {k : Nat} (hk : S.length ≤ k) : fx S k = S := by
  unfold fx
  rw [List.take_of_length_le hk, Nat.sub_eq_zero_of_le hk, List.replicate_zero, List.append_nil]
theorem fx_s {S : List Int} {z y x : Int} (z0 : 0 ≤ z) (z1 : z < (S.length : Int)) (hy : y = z + 1) (e : x = S.getD z.toNat 0) : (fx S z.toNat).set z.toNat x = fx S y.toNat := by
  subst hy
  obtain ⟨k, rfl⟩ : ∃ k : Nat, z = (k : Int) := ⟨z.toNat, by omega⟩
  have hk : k < S.length := by omega
  rw [Int.toNat_natCast, show ((k : Int) + 1).toNat = k + 1 by omega]
  have ex : x = S[k] := by rw [e, Int.toNat_natCast, List.getD_eq_getElem?_getD, List.getElem?_eq_getElem hk]; rfl
  unfold fx
  rw [List.take_succ_eq_append_getElem hk, List.set_append_right _ _ (by rw [List.length_take]; omega), List.length_take, Nat.min_eq_left (by omega), Nat.sub_self, show S.length - k = (S.length - (k + 1)) + 1 by omega, List.replicate_succ, List.set_cons_zero, ex, List.append_assoc]
  rfl
/-! THE REFERENCE'S ROWS, AS ITS STATE TELLS THEM -/
theorem md_rX {w : sg_W} {h : sg_H} {M : Nat} (x : md_M w h M) {i : Int} (i0 : 0 ≤ i) (i1 : i < 6) : md_X 0 h (md_a h (md_r h M) i) (fa_L (md_ab h M) i.toNat) := by
  rw [md_abL i0 i1]
  obtain ⟨l, q, th, kn, R, b, h2, h0', h3, h4⟩ := x
  obtain ⟨c, L, a, n, p1, p2, p3, p4⟩ := md_any h3 i0 i1
  rw [md_re h2, md_ae p1 p3]
  exact md_X0 (md_AX p4).1
theorem md_rN {w : sg_W} {h : sg_H} {M : Nat} (x : md_M w h M) {i : Int} (i0 : 0 ≤ i) (i1 : i < 4) : (fa_L (md_ab h M) i.toNat).length ≤ 40 := by
  have h0 := md_n40 x i0 i1
  rw [md_ne (md_XA (md_rX x i0 (by omega)))] at h0
  exact h0
theorem md_rT {w : sg_W} {h : sg_H} {M : Nat} (x : md_M w h M) {i : Int} (i0 : 4 ≤ i) (i1 : i < 6) : md_X 1 h (md_a h (md_r h M) i) (fa_L (md_ab h M) i.toNat) ∧ (fa_L (md_ab h M) i.toNat).length ≤ 24 := by
  rw [md_abL (by omega) i1]
  have h24 := md_n24 x i0 i1
  obtain ⟨l, q, th, kn, R, b, h2, h0', h3, h4⟩ := x
  obtain ⟨L, a, n, p1, p2, p3, p4, p5⟩ := md_trk h3 i0 i1
  rw [md_re h2, md_ae p1 p3]
  refine ⟨(md_AX p4).1, ?_⟩
  rw [(md_AX p4).2]
  exact p5
theorem md_Ya {w : sg_W} {h0 h : sg_H} {M : Nat} {A : fa_A} (y : md_Y w h0 h M) (hA : md_ab h0 M = A) : md_ab h M = A := y.2.2.trans hA
section
variable {w : sg_W} {mi : sg_M} {d mc ms : Nat} {Q : sg_O → sg_H → Prop} {pc : Nat} {lv : List (Nat × sg_V)} {st : List sg_V} {h h0 : sg_H} {k n M : Nat} {A : fa_A} {L : List Int}
theorem md_alX {i : Int} (hd : decode mi.2.1 pc = .ok (.aaload, 1)) (hA : md_ab h0 M = A) (y : md_Y w h0 h M) (hL : fa_L A i.toNat = L) (i0 : 0 ≤ i) (i1 : i < 4) (K : md_X 0 h (md_a h (md_r h M) i) L → L.length ≤ 40 → sg_R w mi d mc ms Q (pc + 1) lv (sg_r (md_a h (md_r h M) i) :: st) h k n) : sg_R w mi d mc ms Q pc lv (sg_i i :: sg_r (md_r h M) :: st) h k n := by
  subst hL
  rw [← md_Ya y hA] at K
  obtain ⟨l, q, th, kn, R, b, h2, h0', h3, h4⟩ := id y.1
  have e := md_re h2
  rw [← e] at h3
  exact md_alr hd h3 i0 i1 (fun _ _ => K (md_rX y.1 i0 (by omega)) (md_rN y.1 i0 i1))
theorem md_alXt {t : Int} (hd : decode mi.2.1 pc = .ok (.aaload, 1)) (hA : md_ab h0 M = A) (y : md_Y w h0 h M) (hL : fa_L A (4 + t.toNat) = L) (t0 : 0 ≤ t) (t1 : t < 2) (K : md_X 1 h (md_a h (md_r h M) (4 + t)) L → L.length ≤ 24 → sg_R w mi d mc ms Q (pc + 1) lv (sg_r (md_a h (md_r h M) (4 + t)) :: st) h k n) : sg_R w mi d mc ms Q pc lv (sg_i (4 + t) :: sg_r (md_r h M) :: st) h k n := by
  subst hL
  rw [← md_Ya y hA, show 4 + t.toNat = (4 + t).toNat by omega] at K
  obtain ⟨l, q, th, kn, R, b, h2, h0', h3, h4⟩ := id y.1
  have e := md_re h2
  rw [← e] at h3
  have hT := md_rT y.1 (i := 4 + t) (by omega) (by omega)
  exact md_alt hd h3 (by omega) (by omega) (fun _ _ => K hT.1 hT.2)
end
set_option maxRecDepth 100000 in
theorem f_X7_part {w : sg_W} {Q : sg_O → sg_H → Prop} {h : sg_H} (g : sg_G w) {d : Nat} (hd : 3 ≤ d) {c a m : Nat} {L : List Int} {f t : Int} (hA : md_X c h a L) (hn : L.length ≤ 100) (f0 : 0 ≤ f) (ft : t = f + (m : Int)) (tn : t ≤ (L.length : Int)) (hQ : ∀ h' : sg_H, md_F c h h' ((L.drop f.toNat).take m) → Q (.inl (some (sg_r h.1))) h') : sg_C w mi_X7_part d 1 m [sg_r a, sg_i f, sg_i t] h Q := by
  refine sg_of pn_X7 (Nat.le_of_ble_eq_true rfl) ?_
  obtain ⟨S, eS⟩ : ∃ S, S = (L.drop f.toNat).take m := ⟨_, rfl⟩
  have lS : S.length = m := by rw [eS, List.length_take, List.length_drop]; omega
  have gS : ∀ p : Int, f ≤ p → p < t → L.getD p.toNat 0 = S.getD (p - f).toNat 0 := fun p p0 p1 => by
    rw [eS, List.getD_eq_getElem?_getD, List.getD_eq_getElem?_getD, List.getElem?_take_of_lt (by omega), List.getElem?_drop, show f.toNat + (p - f).toNat = p.toNat by omega]
  refine sg_iload_n (pc := 0) (j := 2) (dc_X7_part_0.1.1.1.1) rfl rfl ?_
  refine sg_iload_n (pc := 1) (j := 1) (dc_X7_part_0.1.1.1.2) rfl rfl ?_
  first | refine sg_isubB (pc := 2) (dc_X7_part_0.1.1.2.1) (by omega) (by omega) ?_ | refine sg_isub (pc := 2) (dc_X7_part_0.1.1.2.1) ?_
  refine sg_newa (t := 100) (N := m) (pc := 3) g (dc_X7_part_0.1.1.2.2) ac_int rfl (by decide) (by decide) rfl rfl (by decide) (by omega) (by omega) (by omega) (by omega) ?_
  refine sg_astore_n (pc := 5) (j := 3) (dc_X7_part_0.1.2.1.1) rfl (by decide) ?_
  refine sg_iload_n (pc := 6) (j := 1) (dc_X7_part_0.1.2.1.2) rfl rfl ?_
  refine sg_istore (pc := 7) (dc_X7_part_0.1.2.2.1) (by decide) ?_
  have loop9 : ∀ (N : Nat) (h1 : sg_H) (p : Int), (md_F c h h1 (fx S (p - f).toNat)) → (f ≤ p) → (t - p).toNat < N → sg_R w mi_X7_part d 1 m Q 9 [(4, sg_i p), (0, sg_r a), (1, sg_i f), (2, sg_i t), (3, sg_r h.1)] [] h1 1 (0 + m) := by
    intro N
    induction N with
    | zero => intro h1 p t1 p0 hm; exact absurd hm (Nat.not_lt_zero _)
    | succ N ih =>
      intro h1 p t1 p0 hm
      refine sg_iload (pc := 9) (dc_X7_part_0.1.2.2.2) rfl ?_
      refine sg_iload_n (pc := 11) (j := 2) (dc_X7_part_0.2.1.1.1) rfl rfl ?_
      refine sg_icmp_ge (pc := 12) (tgt := 31) (dc_X7_part_0.2.1.1.2) (by decide) (fun c12 => ?_) (fun c12 => ?_)
      · refine sg_aload_n (pc := 31) (j := 3) (dc_X7_part_23.2.1.1) rfl rfl ?_
        refine sg_aret (pc := 32) (dc_X7_part_23.2.1.2) rfl (by first | exact Or.inl ⟨_, rfl⟩ | exact Or.inr ⟨_, rfl⟩) (by first | exact Nat.le_of_ble_eq_true rfl | omega) (by first | exact Nat.le_of_ble_eq_true rfl | omega) ?_
        exact hQ _ (md_Fw t1 ((fx_e (by omega)).trans eS))
      · refine sg_aload_n (pc := 15) (j := 3) (dc_X7_part_0.2.1.2.1) rfl rfl ?_
        refine sg_iload (pc := 16) (dc_X7_part_0.2.1.2.2) rfl ?_
        refine sg_iload_n (pc := 18) (j := 1) (dc_X7_part_0.2.2.1.1) rfl rfl ?_
        first | refine sg_isubB (pc := 19) (dc_X7_part_0.2.2.1.2) (by omega) (by omega) ?_ | refine sg_isub (pc := 19) (dc_X7_part_0.2.2.1.2) ?_
        refine sg_aload_n (pc := 20) (j := 0) (dc_X7_part_0.2.2.2.1) rfl rfl ?_
        refine sg_iload (pc := 21) (dc_X7_part_0.2.2.2.2) rfl ?_
        refine md_xld (pc := 23) (dc_X7_part_23.1.1.1) (md_XE hA (md_FE t1)) (by omega) (by omega) (fun g23 => ?_)
        refine md_astF (pc := 24) (dc_X7_part_23.1.1.2) t1 (by assumption) (by omega) (by rw [fx_len]; omega) (fun h24 t24 => ?_)
        first | refine sg_iincB (pc := 25) (dc_X7_part_23.1.2.1) rfl (by decide) (by decide) (by omega) (by omega) ?_ | refine sg_iinc (pc := 25) (dc_X7_part_23.1.2.1) rfl (by decide) (by decide) ?_
        refine sg_goto (pc := 28) (tgt := 9) (dc_X7_part_23.1.2.2) (by decide) ?_
        refine sg_lsub (lv' := [(4, _), (0, _), (1, _), (2, _), (3, _)]) ⟨rfl, rfl, rfl, rfl, rfl, trivial⟩ ?_
        exact ih _ _ (md_Fw t24 (fx_s (by omega) (by omega) (by omega) (gS p (by omega) (by omega)))) (by omega) (by first | exact jl_m1 hm (by omega) | exact jl_m2 hm (by omega) | omega)
  refine sg_lsub (lv' := [(4, _), (0, _), (1, _), (2, _), (3, _)]) ⟨rfl, rfl, rfl, rfl, rfl, trivial⟩ ?_
  exact loop9 _ _ _ (md_Fw md_newF (fx_0 (by omega) lS)) (by omega) (Nat.lt_succ_self _)

set_option maxRecDepth 100000 in
theorem f_X7_joined {w : sg_W} {Q : sg_O → sg_H → Prop} {h : sg_H} (g : sg_G w) {d : Nat} (hd : 3 ≤ d) {c a b : Nat} {L M : List Int} (hA : md_X c h a L) (hB : md_X c h b M) (hn : L.length ≤ 100) (hm : M.length ≤ 100) (hQ : ∀ h' : sg_H, md_F c h h' (L ++ M) → Q (.inl (some (sg_r h.1))) h') : sg_C w mi_X7_joined d 1 (L.length + M.length) [sg_r a, sg_r b] h Q := by
  refine sg_of pn_X7 (Nat.le_of_ble_eq_true rfl) ?_
  obtain ⟨S, eS⟩ : ∃ S, S = L ++ M := ⟨_, rfl⟩
  have lS : S.length = L.length + M.length := by rw [eS, List.length_append]
  have gS : ∀ p : Int, 0 ≤ p → p < (S.length : Int) → S.getD p.toNat 0 = if p < (L.length : Int) then L.getD p.toNat 0 else M.getD (p - (L.length : Int)).toNat 0 := fun p p0 p1 => by
    rw [eS]
    by_cases q : p < (L.length : Int)
    · rw [if_pos q, List.getD_eq_getElem?_getD, List.getD_eq_getElem?_getD, List.getElem?_append_left (by omega)]
    · rw [if_neg q, List.getD_eq_getElem?_getD, List.getD_eq_getElem?_getD, List.getElem?_append_right (by omega), show (p - (L.length : Int)).toNat = p.toNat - L.length by omega]
  refine sg_aload_n (pc := 0) (j := 0) (dc_X7_joined_0.1.1.1.1) rfl rfl ?_
  refine md_xlen (pc := 1) (dc_X7_joined_0.1.1.1.2) hA (by omega) ?_
  refine sg_aload_n (pc := 2) (j := 1) (dc_X7_joined_0.1.1.2.1) rfl rfl ?_
  refine md_xlen (pc := 3) (dc_X7_joined_0.1.1.2.2) hB (by omega) ?_
  first | refine sg_iaddB (pc := 4) (dc_X7_joined_0.1.2.1.1) (by omega) (by omega) ?_ | refine sg_iadd (pc := 4) (dc_X7_joined_0.1.2.1.1) ?_
  refine sg_newa (t := 100) (N := (L.length + M.length)) (pc := 5) g (dc_X7_joined_0.1.2.1.2) ac_int rfl (by decide) (by decide) rfl rfl (by decide) (by omega) (by omega) (by omega) (by omega) ?_
  refine sg_astore_n (pc := 7) (j := 2) (dc_X7_joined_0.1.2.2.1) rfl (by decide) ?_
  refine sg_iconst (pc := 8) (z := 0) (dc_X7_joined_0.1.2.2.2) (by decide) ?_
  refine sg_istore_n (pc := 9) (j := 3) (dc_X7_joined_0.2.1.1.1) rfl (by decide) ?_
  have loop10 : ∀ (N : Nat) (h1 : sg_H) (p : Int), (md_F c h h1 (fx S p.toNat)) → (0 ≤ p) → ((S.length : Int) - p).toNat < N → sg_R w mi_X7_joined d 1 (L.length + M.length) Q 10 [(3, sg_i p), (0, sg_r a), (1, sg_r b), (2, sg_r h.1)] [] h1 1 (0 + (L.length + M.length)) := by
    intro N
    induction N with
    | zero => intro h1 p t1 p0 hm; exact absurd hm (Nat.not_lt_zero _)
    | succ N ih =>
      intro h1 p t1 p0 hm
      refine sg_iload_n (pc := 10) (j := 3) (dc_X7_joined_0.2.1.1.2) rfl rfl ?_
      refine sg_aload_n (pc := 11) (j := 2) (dc_X7_joined_0.2.1.2.1) rfl rfl ?_
      refine md_xlen (pc := 12) (dc_X7_joined_0.2.1.2.2) (md_FX t1) (by rw [fx_len]; omega) ?_
      rw [fx_len]
      refine sg_icmp_ge (pc := 13) (tgt := 43) (dc_X7_joined_0.2.2.1.1) (by decide) (fun c13 => ?_) (fun c13 => ?_)
      · refine sg_aload_n (pc := 43) (j := 2) (dc_X7_joined_43.1) rfl rfl ?_
        refine sg_aret (pc := 44) (dc_X7_joined_43.2) rfl (by first | exact Or.inl ⟨_, rfl⟩ | exact Or.inr ⟨_, rfl⟩) (by first | exact Nat.le_of_ble_eq_true rfl | omega) (by first | exact Nat.le_of_ble_eq_true rfl | omega) ?_
        exact hQ _ (md_Fw t1 ((fx_e (by omega)).trans eS))
      · refine sg_aload_n (pc := 16) (j := 2) (dc_X7_joined_0.2.2.1.2) rfl rfl ?_
        refine sg_iload_n (pc := 17) (j := 3) (dc_X7_joined_0.2.2.2.1) rfl rfl ?_
        refine sg_iload_n (pc := 18) (j := 3) (dc_X7_joined_0.2.2.2.2) rfl rfl ?_
        refine sg_aload_n (pc := 19) (j := 0) (dc_X7_joined_19.1.1.1.1) rfl rfl ?_
        refine md_xlen (pc := 20) (dc_X7_joined_19.1.1.1.2) (md_XE hA (md_FE t1)) (by omega) ?_
        refine sg_icmp_ge (pc := 21) (tgt := 30) (dc_X7_joined_19.1.1.2.1) (by decide) (fun c21 => ?_) (fun c21 => ?_)
        · refine sg_aload_n (pc := 30) (j := 1) (dc_X7_joined_19.1.2.2.2) rfl rfl ?_
          refine sg_iload_n (pc := 31) (j := 3) (dc_X7_joined_19.2.1.1.1) rfl rfl ?_
          refine sg_aload_n (pc := 32) (j := 0) (dc_X7_joined_19.2.1.1.2) rfl rfl ?_
          refine md_xlen (pc := 33) (dc_X7_joined_19.2.1.2.1) (md_XE hA (md_FE t1)) (by omega) ?_
          first | refine sg_isubB (pc := 34) (dc_X7_joined_19.2.1.2.2) (by omega) (by omega) ?_ | refine sg_isub (pc := 34) (dc_X7_joined_19.2.1.2.2) ?_
          refine md_xld (pc := 35) (dc_X7_joined_19.2.2.1.1) (md_XE hB (md_FE t1)) (by omega) (by omega) (fun g35 => ?_)
          refine md_astF (pc := 36) (dc_X7_joined_19.2.2.1.2) t1 (by assumption) (by omega) (by rw [fx_len]; omega) (fun h36 t36 => ?_)
          first | refine sg_iincB (pc := 37) (dc_X7_joined_19.2.2.2.1) rfl (by decide) (by decide) (by omega) (by omega) ?_ | refine sg_iinc (pc := 37) (dc_X7_joined_19.2.2.2.1) rfl (by decide) (by decide) ?_
          refine sg_goto (pc := 40) (tgt := 10) (dc_X7_joined_19.2.2.2.2) (by decide) ?_
          refine sg_lsub (lv' := [(3, _), (0, _), (1, _), (2, _)]) ⟨rfl, rfl, rfl, rfl, trivial⟩ ?_
          exact ih _ _ (md_Fw t36 (fx_s (by omega) (by omega) rfl (by rw [gS p (by omega) (by omega), if_neg (by omega)]))) (by omega) (by first | exact jl_m1 hm (by omega) | exact jl_m2 hm (by omega) | omega)
        · refine sg_aload_n (pc := 24) (j := 0) (dc_X7_joined_19.1.1.2.2) rfl rfl ?_
          refine sg_iload_n (pc := 25) (j := 3) (dc_X7_joined_19.1.2.1.1) rfl rfl ?_
          refine md_xld (pc := 26) (dc_X7_joined_19.1.2.1.2) (md_XE hA (md_FE t1)) (by omega) (by omega) (fun g26 => ?_)
          refine sg_goto (pc := 27) (tgt := 36) (dc_X7_joined_19.1.2.2.1) (by decide) ?_
          refine md_astF (pc := 36) (dc_X7_joined_19.2.2.1.2) t1 (by assumption) (by omega) (by rw [fx_len]; omega) (fun h36 t36 => ?_)
          first | refine sg_iincB (pc := 37) (dc_X7_joined_19.2.2.2.1) rfl (by decide) (by decide) (by omega) (by omega) ?_ | refine sg_iinc (pc := 37) (dc_X7_joined_19.2.2.2.1) rfl (by decide) (by decide) ?_
          refine sg_goto (pc := 40) (tgt := 10) (dc_X7_joined_19.2.2.2.2) (by decide) ?_
          refine sg_lsub (lv' := [(3, _), (0, _), (1, _), (2, _)]) ⟨rfl, rfl, rfl, rfl, trivial⟩ ?_
          exact ih _ _ (md_Fw t36 (fx_s (by omega) (by omega) rfl (by rw [gS p (by omega) (by omega), if_pos (by omega)]))) (by omega) (by first | exact jl_m1 hm (by omega) | exact jl_m2 hm (by omega) | omega)
  refine sg_lsub (lv' := [(3, _), (0, _), (1, _), (2, _)]) ⟨rfl, rfl, rfl, rfl, trivial⟩ ?_
  exact loop10 _ _ _ (md_Fw md_newF (fx_0 rfl lS)) (by omega) (Nat.lt_succ_self _)

set_option maxRecDepth 100000 in
theorem f_X7_turned {w : sg_W} {Q : sg_O → sg_H → Prop} {h : sg_H} (g : sg_G w) {d : Nat} (hd : 3 ≤ d) {c a : Nat} {L : List Int} (hA : md_X c h a L) (hn : L.length ≤ 100) (hQ : ∀ h' : sg_H, md_F c h h' (L.reverse) → Q (.inl (some (sg_r h.1))) h') : sg_C w mi_X7_turned d 1 L.length [sg_r a] h Q := by
  refine sg_of pn_X7 (Nat.le_of_ble_eq_true rfl) ?_
  obtain ⟨S, eS⟩ : ∃ S, S = L.reverse := ⟨_, rfl⟩
  have lS : S.length = L.length := by rw [eS, List.length_reverse]
  have gS : ∀ p : Int, 0 ≤ p → p < (S.length : Int) → L.getD ((L.length : Int) - 1 - p).toNat 0 = S.getD p.toNat 0 := fun p p0 p1 => by
    rw [eS, List.getD_eq_getElem?_getD, List.getD_eq_getElem?_getD, List.getElem?_reverse (by omega), show ((L.length : Int) - 1 - p).toNat = L.length - 1 - p.toNat by omega]
  refine sg_aload_n (pc := 0) (j := 0) (dc_X7_turned_0.1.1.1.1) rfl rfl ?_
  refine md_xlen (pc := 1) (dc_X7_turned_0.1.1.1.2) hA (by omega) ?_
  refine sg_newa (t := 100) (N := L.length) (pc := 2) g (dc_X7_turned_0.1.1.2.1) ac_int rfl (by decide) (by decide) rfl rfl (by decide) (by omega) (by omega) (by omega) (by omega) ?_
  refine sg_astore_n (pc := 4) (j := 1) (dc_X7_turned_0.1.1.2.2) rfl (by decide) ?_
  refine sg_iconst (pc := 5) (z := 0) (dc_X7_turned_0.1.2.1.1) (by decide) ?_
  refine sg_istore_n (pc := 6) (j := 2) (dc_X7_turned_0.1.2.1.2) rfl (by decide) ?_
  have loop7 : ∀ (N : Nat) (h1 : sg_H) (p : Int), (md_F c h h1 (fx S p.toNat)) → (0 ≤ p) → ((S.length : Int) - p).toNat < N → sg_R w mi_X7_turned d 1 L.length Q 7 [(2, sg_i p), (0, sg_r a), (1, sg_r h.1)] [] h1 1 (0 + L.length) := by
    intro N
    induction N with
    | zero => intro h1 p t1 p0 hm; exact absurd hm (Nat.not_lt_zero _)
    | succ N ih =>
      intro h1 p t1 p0 hm
      refine sg_iload_n (pc := 7) (j := 2) (dc_X7_turned_0.1.2.2.1) rfl rfl ?_
      refine sg_aload_n (pc := 8) (j := 1) (dc_X7_turned_0.1.2.2.2) rfl rfl ?_
      refine md_xlen (pc := 9) (dc_X7_turned_0.2.1.1.1) (md_FX t1) (by rw [fx_len]; omega) ?_
      rw [fx_len]
      refine sg_icmp_ge (pc := 10) (tgt := 30) (dc_X7_turned_0.2.1.1.2) (by decide) (fun c10 => ?_) (fun c10 => ?_)
      · refine sg_aload_n (pc := 30) (j := 1) (dc_X7_turned_19.1.2.2.2) rfl rfl ?_
        refine sg_aret (pc := 31) (dc_X7_turned_19.2.1.1.1) rfl (by first | exact Or.inl ⟨_, rfl⟩ | exact Or.inr ⟨_, rfl⟩) (by first | exact Nat.le_of_ble_eq_true rfl | omega) (by first | exact Nat.le_of_ble_eq_true rfl | omega) ?_
        exact hQ _ (md_Fw t1 ((fx_e (by omega)).trans eS))
      · refine sg_aload_n (pc := 13) (j := 1) (dc_X7_turned_0.2.1.2.1) rfl rfl ?_
        refine sg_iload_n (pc := 14) (j := 2) (dc_X7_turned_0.2.1.2.2) rfl rfl ?_
        refine sg_aload_n (pc := 15) (j := 0) (dc_X7_turned_0.2.2.1.1) rfl rfl ?_
        refine sg_aload_n (pc := 16) (j := 0) (dc_X7_turned_0.2.2.1.2) rfl rfl ?_
        refine md_xlen (pc := 17) (dc_X7_turned_0.2.2.2.1) (md_XE hA (md_FE t1)) (by omega) ?_
        refine sg_iconst (pc := 18) (z := 1) (dc_X7_turned_0.2.2.2.2) (by decide) ?_
        first | refine sg_isubB (pc := 19) (dc_X7_turned_19.1.1.1.1) (by omega) (by omega) ?_ | refine sg_isub (pc := 19) (dc_X7_turned_19.1.1.1.1) ?_
        refine sg_iload_n (pc := 20) (j := 2) (dc_X7_turned_19.1.1.1.2) rfl rfl ?_
        first | refine sg_isubB (pc := 21) (dc_X7_turned_19.1.1.2.1) (by omega) (by omega) ?_ | refine sg_isub (pc := 21) (dc_X7_turned_19.1.1.2.1) ?_
        refine md_xld (pc := 22) (dc_X7_turned_19.1.1.2.2) (md_XE hA (md_FE t1)) (by omega) (by omega) (fun g22 => ?_)
        refine md_astF (pc := 23) (dc_X7_turned_19.1.2.1.1) t1 (by assumption) (by omega) (by rw [fx_len]; omega) (fun h23 t23 => ?_)
        first | refine sg_iincB (pc := 24) (dc_X7_turned_19.1.2.1.2) rfl (by decide) (by decide) (by omega) (by omega) ?_ | refine sg_iinc (pc := 24) (dc_X7_turned_19.1.2.1.2) rfl (by decide) (by decide) ?_
        refine sg_goto (pc := 27) (tgt := 7) (dc_X7_turned_19.1.2.2.1) (by decide) ?_
        refine sg_lsub (lv' := [(2, _), (0, _), (1, _)]) ⟨rfl, rfl, rfl, trivial⟩ ?_
        exact ih _ _ (md_Fw t23 (fx_s (by omega) (by omega) rfl (gS p (by omega) (by omega)))) (by omega) (by first | exact jl_m1 hm (by omega) | exact jl_m2 hm (by omega) | omega)
  refine sg_lsub (lv' := [(2, _), (0, _), (1, _)]) ⟨rfl, rfl, rfl, trivial⟩ ?_
  exact loop7 _ _ _ (md_Fw md_newF (fx_0 rfl lS)) (by omega) (Nat.lt_succ_self _)

