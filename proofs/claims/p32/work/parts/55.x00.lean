theorem sg_el_up {h : sg_H} {n a t k : Nat} {vs vs' : List sg_V} {v : sg_V} (ha : h.2 a = some (t, vs)) (x : sg_el h k v) : sg_el (n, sg_up h.2 a (t, vs')) k v := by
  rcases x with x | ⟨x, y | ⟨q, u, us, y, z, e⟩⟩
  · exact Or.inl x
  · exact Or.inr ⟨x, Or.inl y⟩
  · by_cases c : q = a
    · subst c
      rw [ha] at z
      cases z
      exact Or.inr ⟨x, Or.inr ⟨q, t, vs', y, sg_up_s, e⟩⟩
    · exact Or.inr ⟨x, Or.inr ⟨q, u, us, y, (sg_up_n c).trans z, e⟩⟩
theorem sg_rmv {xs : List sg_V} {i s : Int} (h0 : 0 ≤ i) (h1 : s < (xs.length : Int)) (h2 : i ≤ s) : ((sg_cp xs xs (i + 1).toNat i.toNat (s - i).toNat).set s.toNat sg_n).length = xs.length ∧ ∀ j : Nat, (j : Int) < s → ((sg_cp xs xs (i + 1).toNat i.toNat (s - i).toNat).set s.toNat sg_n)[j]? = xs[if (j : Int) < i then j else j + 1]? := by
  refine ⟨by rw [List.length_set]; exact sg_cp_len, fun j hj => ?_⟩
  rw [List.getElem?_set_ne (by omega), sg_cp_at (by omega)]
  by_cases c : (j : Int) < i
  · rw [if_neg (by omega), if_pos c, List.getD_eq_getElem?_getD, List.getElem?_eq_getElem (by omega)]
    rfl
  · rw [if_pos (by omega), if_neg c, show (i + 1).toNat + (j - i.toNat) = j + 1 by omega, List.getD_eq_getElem?_getD, List.getElem?_eq_getElem (by omega)]
    rfl
