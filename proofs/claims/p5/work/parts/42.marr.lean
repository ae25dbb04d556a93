/-! ARRAYS of numbers that don't change once made: the reference's -/
def md_A (c : Nat) (h : sg_H) (a n : Nat) : Prop := a < h.1 ∧ ∃ zs : List Int, zs.length = n ∧ (∀ z ∈ zs, ck_v c z) ∧ h.2 a = some (100, zs.map sg_i)
/-- h has one array more than h0, at h0's end -/
def md_T (c : Nat) (h0 h : sg_H) (n : Nat) : Prop := h.1 = h0.1 + 1 ∧ (∀ q, q ≠ h0.1 → h.2 q = h0.2 q) ∧ md_A c h h0.1 n
/-- h has what h0 has, and perhaps more behind it -/
def md_E (h0 h : sg_H) : Prop := h0.1 ≤ h.1 ∧ ∀ q, q < h0.1 → h.2 q = h0.2 q
theorem md_E0 {h : sg_H} : md_E h h := ⟨Nat.le_refl _, fun _ _ => rfl⟩
theorem md_Et {h0 h1 h2 : sg_H} (a : md_E h0 h1) (b : md_E h1 h2) : md_E h0 h2 := ⟨Nat.le_trans a.1 b.1, fun q hq => (b.2 q (Nat.lt_of_lt_of_le hq a.1)).trans (a.2 q hq)⟩
theorem md_TE {c : Nat} {h0 h : sg_H} {n : Nat} (t : md_T c h0 h n) : md_E h0 h := ⟨by rw [t.1]; omega, fun q hq => t.2.1 q (by omega)⟩
theorem md_AE {c : Nat} {h0 h : sg_H} {a n : Nat} (x : md_A c h0 a n) (e : md_E h0 h) : md_A c h a n := by
  obtain ⟨h1, zs, h2, h3, h4⟩ := x
  exact ⟨Nat.lt_of_lt_of_le h1 e.1, zs, h2, h3, (e.2 a h1).trans h4⟩
theorem md_AT {c c' : Nat} {h0 h : sg_H} {a n m : Nat} (x : md_A c h0 a n) (t : md_T c' h0 h m) : md_A c h a n := md_AE x (md_TE t)
theorem md_A0 {c : Nat} {h : sg_H} {a n : Nat} (x : md_A c h a n) : md_A 0 h a n := by
  obtain ⟨h1, zs, h2, h3, h4⟩ := x
  exact ⟨h1, zs, h2, fun _ _ => ck_v0, h4⟩
theorem md_new {c N : Nat} {h : sg_H} : md_T c h (h.1 + 1, sg_up h.2 h.1 (100, List.replicate N (sg_i 0))) N :=
  ⟨rfl, fun q hq => sg_up_n hq, Nat.lt_succ_self _, List.replicate N 0, by simp, fun z hz => by rw [List.eq_of_mem_replicate hz]; exact ck_vz, by rw [show ((h.1 + 1, sg_up h.2 h.1 (100, List.replicate N (sg_i 0))) : sg_H).2 h.1 = _ from sg_up_s]; simp⟩
section
variable {w : sg_W} {mi : sg_M} {d mc ms : Nat} {Q : sg_O → sg_H → Prop} {pc : Nat} {lv : List (Nat × sg_V)} {st : List sg_V} {h h0 : sg_H} {k n : Nat} {c a N : Nat}
theorem md_len (hd : decode mi.2.1 pc = .ok (.arraylength, 1)) (ha : md_A c h a N) (hN : N ≤ 1000) (K : sg_R w mi d mc ms Q (pc + 1) lv (sg_i (N : Int) :: st) h k n) : sg_R w mi d mc ms Q pc lv (sg_r a :: st) h k n := by
  obtain ⟨h1, zs, h2, h3, h4⟩ := ha
  exact sg_alenN (N := N) hd h4 (by decide) (by simp [h2]) (by omega) K
theorem md_ald {z : Int} (hd : decode mi.2.1 pc = .ok (.iaload, 1)) (ha : md_A c h a N) (h0 : 0 ≤ z) (h1 : z < (N : Int)) (K : ∀ x : Int, ck_v c x → sg_R w mi d mc ms Q (pc + 1) lv (sg_i x :: st) h k n) : sg_R w mi d mc ms Q pc lv (sg_i z :: sg_r a :: st) h k n := by
  obtain ⟨g1, zs, h2, h3, h4⟩ := ha
  have hl : z.toNat < zs.length := by omega
  exact sg_iald hd h4 rfl h0 (ck_at hl) (K _ (h3 _ (List.getElem_mem _)))
theorem md_ast {z x : Int} (hd : decode mi.2.1 pc = .ok (.iastore, 1)) (t : md_T c h0 h N) (hv : ck_v c x) (g0 : 0 ≤ z) (g1 : z < (N : Int)) (K : ∀ h' : sg_H, md_T c h0 h' N → sg_R w mi d mc ms Q (pc + 1) lv st h' k n) : sg_R w mi d mc ms Q pc lv (sg_i x :: sg_i z :: sg_r h0.1 :: st) h k n := by
  obtain ⟨t1, t2, g2, zs, h2, h3, h4⟩ := t
  have hl : z.toNat < (zs.map sg_i).length := by rw [List.length_map]; omega
  refine sg_iast hd h4 g0 hl (K (h.1, sg_up h.2 h0.1 (100, (zs.map sg_i).set z.toNat (sg_i x))) ⟨t1, fun q hq => (sg_up_n hq).trans (t2 q hq), g2, zs.set z.toNat x, by simp [h2], fun y hy => ?_, ?_⟩)
  · rcases List.mem_or_eq_of_mem_set hy with q | rfl
    · exact h3 _ q
    · exact hv
  · rw [show ((h.1, sg_up h.2 h0.1 (100, (zs.map sg_i).set z.toNat (sg_i x))) : sg_H).2 h0.1 = _ from sg_up_s, List.map_set]
end

