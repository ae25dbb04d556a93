/-! words: a fresh list of arrays of two numbers -/
def jw_P (w : sg_W) (h0 h : sg_H) (b cap : Nat) (sz : Int) : Prop := h0.1 ≤ b ∧ md_E h0 h ∧ b < h.1 ∧ ∃ (m : Int) (E : Nat) (xs : List sg_V), h.2 b = some (2, [sg_i m, sg_r E, sg_i sz]) ∧ ((cap = 0 ∧ xs = [] ∧ h.2 E = some (313, []) ∧ va_Z "java/util/ArrayList" "DEFAULTCAPACITY_EMPTY_ELEMENTDATA" "[Ljava/lang/Object;" (.ref E) (fun q => sg_b w ≤ q) w.2.1 w.2.1.heap) ∨ (0 < cap ∧ h0.1 ≤ E ∧ h.2 E = some (113, xs) ∧ xs.length = cap)) ∧ 0 ≤ sz ∧ sz ≤ (cap : Int) ∧ ∀ j : Nat, (j : Int) < sz → ∃ a, xs[j]? = some (sg_r a) ∧ h0.1 ≤ a ∧ md_A 0 h a 2
def jwc (v : Int → Int) : Nat → Int
  | 0 => 0
  | k + 1 => jwc v k + (if fn_isOf (v k) 2 = 1 ∧ (k = 0 ∨ fn_isOf (v ((k : Int) - 1)) 2 ≠ 1) then 1 else 0)
/-- what the list's arrays have cost -/
def jwg (cap : Nat) (c s : Nat) : Prop := (cap = 0 ∧ c = 0 ∧ s = 0) ∨ (cap = 10 ∧ c = 1 ∧ s = 10) ∨ (cap = 15 ∧ c = 2 ∧ s = 25) ∨ (cap = 22 ∧ c = 3 ∧ s = 47)
theorem md_Akeep {h h' : sg_H} {a n c : Nat} (x : md_A c h a n) (hl : h.1 ≤ h'.1) (e : h'.2 a = h.2 a) : md_A c h' a n := by
  obtain ⟨h1, zs, h2, h3, h4⟩ := x
  exact ⟨Nat.lt_of_lt_of_le h1 hl, zs, h2, h3, e.trans h4⟩
theorem md_Ane {h : sg_H} {a n c q t : Nat} {vs : List sg_V} (x : md_A c h a n) (hq : h.2 q = some (t, vs)) (ht : t ≠ 100) : a ≠ q := fun e => by
  obtain ⟨h1, zs, h2, h3, h4⟩ := x
  rw [e, hq] at h4
  cases h4
  exact ht rfl
theorem jw_add {w : sg_W} {h0 h : sg_H} {h1 b E E' cap' x : Nat} {m m1 sz : Int} {ys zs : List sg_V} {f : Nat → Option sg_E} (b0 : h0.1 ≤ b) (E0 : md_E h0 h) (hl : h.1 ≤ h1) (hb1 : b < h.1) (hb : h.2 b = some (2, [sg_i m, sg_r E, sg_i sz])) (fb : f b = some (2, [sg_i m1, sg_r E', sg_i (sz + 1)])) (fE : f E' = some (113, zs.set sz.toNat (sg_r x))) (hE0 : h0.1 ≤ E') (hzl : zs.length = cap') (s0 : 0 ≤ sz) (sc : sz + 1 ≤ (cap' : Int))
    (hz : ∀ j : Nat, (j : Int) < sz → zs[j]? = ys[j]?) (hy : ∀ j : Nat, (j : Int) < sz → ∃ a, ys[j]? = some (sg_r a) ∧ h0.1 ≤ a ∧ md_A 0 h a 2) (x0 : h0.1 ≤ x) (hx : md_A 0 h x 2) (hE' : ∀ a, md_A 0 h a 2 → a ≠ E') (fr : ∀ q, q ≠ b → q ≠ E' → f q = h.2 q) : jw_P w h0 (h1, f) b cap' (sz + 1) := by
  have kp : ∀ a, md_A 0 h a 2 → md_A 0 (h1, f) a 2 := fun a z => md_Akeep z hl (fr a (md_Ane z hb (by decide)) (hE' a z))
  refine ⟨b0, ⟨Nat.le_trans E0.1 hl, fun q hq => (fr q (by omega) (by omega)).trans (E0.2 q hq)⟩, Nat.lt_of_lt_of_le hb1 hl, m1, E', _, fb, Or.inr ⟨by omega, hE0, fE, by rw [List.length_set]; exact hzl⟩, by omega, sc, fun j hj => ?_⟩
  by_cases c : (j : Int) < sz
  · obtain ⟨a, e1, e2, e3⟩ := hy j c
    exact ⟨a, by rw [List.getElem?_set_ne (by omega), hz j c]; exact e1, e2, kp a e3⟩
  · have e : j = sz.toNat := by omega
    subst e
    exact ⟨x, by rw [List.getElem?_set_self (by omega)], x0, kp x hx⟩
