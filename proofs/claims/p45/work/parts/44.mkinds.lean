/-! KINDS: the reference's table, as it lies from the start -/
def md_k (h : sg_H) (b : Nat) (zs : List Int) : Prop := b < h.1 ∧ h.2 b = some (300, zs.map sg_i)
def md_K (w : sg_W) (h : sg_H) : Prop := ∃ K k0 k1 k2 k3 k4 : Nat, va_Z "SignkindsModel" "KINDS" "[[I" (.ref K) (fun q => sg_b w ≤ q) w.2.1 w.2.1.heap ∧ K < h.1 ∧ h.2 K = some (310, [sg_r k0, sg_r k1, sg_r k2, sg_r k3, sg_r k4]) ∧
  md_k h k0 [48, 57] ∧ md_k h k1 [65, 90, 97, 122, 170, 170, 181, 181, 186, 186, 192, 214, 216, 246, 248, 255] ∧ md_k h k2 [] ∧ md_k h k3 [9, 13, 28, 32] ∧ md_k h k4 [65, 90, 192, 214, 216, 222]
theorem md_kE {h0 h : sg_H} {b : Nat} {zs : List Int} (x : md_k h0 b zs) (e : md_E h0 h) : md_k h b zs := ⟨Nat.lt_of_lt_of_le x.1 e.1, (e.2 b x.1).trans x.2⟩
theorem md_KE {w : sg_W} {h0 h : sg_H} (x : md_K w h0) (e : md_E h0 h) : md_K w h := by
  obtain ⟨K, k0, k1, k2, k3, k4, z, l, hK, h0', h1, h2, h3, h4⟩ := x
  exact ⟨K, k0, k1, k2, k3, k4, z, Nat.lt_of_lt_of_le l e.1, (e.2 K l).trans hK, md_kE h0' e, md_kE h1 e, md_kE h2 e, md_kE h3 e, md_kE h4 e⟩
theorem md_Kn {w : sg_W} {h : sg_H} (x : md_K w h) {y : Int} (y0 : 0 ≤ y) (y1 : y ≤ 4) : ∃ (K : Nat) (L : List sg_V) (b m : Nat) (zs : List Int), va_Z "SignkindsModel" "KINDS" "[[I" (.ref K) (fun q => sg_b w ≤ q) w.2.1 w.2.1.heap ∧ h.2 K = some (310, L) ∧ y.toNat < L.length ∧ L[y.toNat]? = some (sg_r b) ∧ h.2 b = some (300, zs.map sg_i) ∧ zs.length = 2 * m ∧ m ≤ 10 := by
  obtain ⟨K, k0, k1, k2, k3, k4, z, l, hK, h0', h1, h2, h3, h4⟩ := x
  rcases (show y = 0 ∨ y = 1 ∨ y = 2 ∨ y = 3 ∨ y = 4 by omega) with rfl | rfl | rfl | rfl | rfl
  · exact ⟨K, _, k0, 1, _, z, hK, Nat.le_of_ble_eq_true rfl, rfl, h0'.2, rfl, by decide⟩
  · exact ⟨K, _, k1, 8, _, z, hK, Nat.le_of_ble_eq_true rfl, rfl, h1.2, rfl, by decide⟩
  · exact ⟨K, _, k2, 0, _, z, hK, Nat.le_of_ble_eq_true rfl, rfl, h2.2, rfl, by decide⟩
  · exact ⟨K, _, k3, 2, _, z, hK, Nat.le_of_ble_eq_true rfl, rfl, h3.2, rfl, by decide⟩
  · exact ⟨K, _, k4, 3, _, z, hK, Nat.le_of_ble_eq_true rfl, rfl, h4.2, rfl, by decide⟩
theorem kl_X7_30 : sg_ok (.fieldLink RX7 30 "SignkindsModel" "KINDS" "[[I") := sg_okt 1350 (by decide +kernel)
