/-! KINDS: the reference's table, as it lies from the start -/
def md_k (h : sg_H) (b : Nat) (zs : List Int) : Prop := b < h.1 ∧ h.2 b = some (300, zs.map sg_i)
def md_K0 (w : sg_W) (h : sg_H) : Prop := ∃ K k0 k1 k2 k3 k4 : Nat, va_Z "SignkindsModel" "KINDS" "[[I" (.ref K) (fun q => sg_b w ≤ q) w.2.1 w.2.1.heap ∧ K < h.1 ∧ h.2 K = some (310, [sg_r k0, sg_r k1, sg_r k2, sg_r k3, sg_r k4]) ∧
  md_k h k0 [48, 57] ∧ md_k h k1 [65, 90, 97, 122, 170, 170, 181, 181, 186, 186, 192, 214, 216, 246, 248, 255] ∧ md_k h k2 [] ∧ md_k h k3 [9, 13, 28, 32] ∧ md_k h k4 [65, 90, 192, 214, 216, 222]
theorem md_kE {h0 h : sg_H} {b : Nat} {zs : List Int} (x : md_k h0 b zs) (e : md_E h0 h) : md_k h b zs := ⟨Nat.lt_of_lt_of_le x.1 e.1, (e.2 b x.1).trans x.2⟩
theorem md_K0E {w : sg_W} {h0 h : sg_H} (x : md_K0 w h0) (e : md_E h0 h) : md_K0 w h := by
  obtain ⟨K, k0, k1, k2, k3, k4, z, l, hK, h0', h1, h2, h3, h4⟩ := x
  exact ⟨K, k0, k1, k2, k3, k4, z, Nat.lt_of_lt_of_le l e.1, (e.2 K l).trans hK, md_kE h0' e, md_kE h1 e, md_kE h2 e, md_kE h3 e, md_kE h4 e⟩
/-! what the library's own methods rest on: texts, the empty list's array, the class object of Object[] -/
/-- bytes -/
def jy (xs : List sg_V) : Prop := ∀ v ∈ xs, ∃ z : Int, v = sg_i z ∧ -128 ≤ z ∧ z ≤ 127
def js_B (h : sg_H) (v n : Nat) : Prop := v < h.1 ∧ ∃ (t : Nat) (xs : List sg_V), h.2 v = some (t, xs) ∧ t % 200 = 102 ∧ xs.length = n ∧ jy xs
/-- a text of n letters, none beyond 255 -/
def js_S (h : sg_H) (a n : Nat) : Prop := a < h.1 ∧ ∃ (t v : Nat) (vs : List sg_V), h.2 a = some (t, sg_r v :: sg_i 0 :: vs) ∧ t % 200 = 0 ∧ js_B h v n
theorem js_BE {h0 h : sg_H} {v n : Nat} (x : js_B h0 v n) (e : md_E h0 h) : js_B h v n := by
  obtain ⟨h1, t, zs, h2, h3⟩ := x
  exact ⟨Nat.lt_of_lt_of_le h1 e.1, t, zs, (e.2 v h1).trans h2, h3⟩
theorem js_SE {h0 h : sg_H} {a n : Nat} (x : js_S h0 a n) (e : md_E h0 h) : js_S h a n := by
  obtain ⟨h1, t, v, vs, h2, h3, h4⟩ := x
  exact ⟨Nat.lt_of_lt_of_le h1 e.1, t, v, vs, (e.2 a h1).trans h2, h3, js_BE h4 e⟩
def jd_txt : List (Nat × String × Nat) := [(173, "", 0), (182, "d", 1), (184, "u", 1), (186, "l", 1), (188, "w", 1), (190, "-", 1)]
def jd_D (w : sg_W) (h : sg_H) : Prop := va_Z "java/lang/String" "COMPACT_STRINGS" "Z" (.int 1) (fun q => sg_b w ≤ q) w.2.1 w.2.1.heap ∧ (∃ mm, va_Mi "[Ljava/lang/Object;" mm w.2.1) ∧
  (∃ D, va_Z "java/util/ArrayList" "DEFAULTCAPACITY_EMPTY_ELEMENTDATA" "[Ljava/lang/Object;" (.ref D) (fun q => sg_b w ≤ q) w.2.1 w.2.1.heap ∧ D < h.1 ∧ h.2 D = some (313, [])) ∧
  ∀ q ∈ jd_txt, ∃ a, vk_R "SignkindsModel" q.1 q.2.1 a w.2.1 ∧ js_S h a q.2.2
theorem jd_DE {w : sg_W} {h0 h : sg_H} (x : jd_D w h0) (e : md_E h0 h) : jd_D w h := by
  obtain ⟨h1, h2, ⟨D, h3, h4, h5⟩, h6⟩ := x
  refine ⟨h1, h2, ⟨D, h3, Nat.lt_of_lt_of_le h4 e.1, (e.2 D h4).trans h5⟩, fun q hq => ?_⟩
  obtain ⟨a, g1, g2⟩ := h6 q hq
  exact ⟨a, g1, js_SE g2 e⟩
def md_K (w : sg_W) (h : sg_H) : Prop := md_K0 w h ∧ jd_D w h
theorem md_KE {w : sg_W} {h0 h : sg_H} (x : md_K w h0) (e : md_E h0 h) : md_K w h := ⟨md_K0E x.1 e, jd_DE x.2 e⟩
set_option maxRecDepth 100000 in
theorem kl_X7_30 : sg_ok (.fieldLink RX7 30 "SignkindsModel" "KINDS" "[[I") := ⟨ts_6_144.1.2.1.2.1, rfl⟩

