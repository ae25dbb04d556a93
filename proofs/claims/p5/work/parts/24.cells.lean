/-! frames with the cells; the States, the Past -/
def ck_Y (h0 h : sg_H) (B : Nat) : Prop := ck_X h B ∧ ck_F B h0 h
theorem ck_Y0 {h : sg_H} {B : Nat} (hx : ck_X h B) : ck_Y h h B := ⟨hx, ck_F0⟩
theorem ck_Yt {h0 h h' : sg_H} {B : Nat} (y : ck_Y h0 h B) (x : ck_X h' B) (f : ck_F B h h') : ck_Y h0 h' B := ⟨x, ck_Ft y.2 f⟩
theorem ck_Yz {h0 h : sg_H} {B z : Nat} (y : ck_Y h0 h B) (hz : h.1 ≤ z) : ck_Y h0 (z, h.2) B := ⟨y.1, Nat.le_trans y.2.1 hz, y.2.2⟩
def ck_S (B a : Nat) : Prop := ∃ i, i < 110 ∧ a = B + i ∧ (ck i).1 = 3
def ck_sq (i : Nat) : Bool := decide (i + 14 < 110) && (ck (i + 1) == (4, 0) && (ck (i + 2) == (5, 0) && (ck (i + 3) == (1, 0) && (ck (i + 5) == (1, 0) && (ck (i + 7) == (1, 0) && (ck (i + 9) == (1, 0) && (ck (i + 11) == (1, 1) && ck (i + 13) == (1, 1))))))))
theorem ck_sx0 : ∀ i, i < 110 → (ck i).1 = 3 → ck_sq i = true := by decide +kernel
theorem ck_sx (i : Nat) (hi : i < 110) (hc : (ck i).1 = 3) : i + 14 < 110 ∧ ck (i + 1) = (4, 0) ∧ ck (i + 2) = (5, 0) ∧ ck (i + 3) = (1, 0) ∧ ck (i + 5) = (1, 0) ∧ ck (i + 7) = (1, 0) ∧ ck (i + 9) = (1, 0) ∧ ck (i + 11) = (1, 1) ∧ ck (i + 13) = (1, 1) := by
  have h := ck_sx0 i hi hc
  unfold ck_sq at h
  simp only [Bool.and_eq_true, decide_eq_true_eq, beq_iff_eq] at h
  exact h
theorem ck_sl {B a : Nat} {h : sg_H} (hx : ck_X h B) (hs : ck_S B a) : h.2 a = some (5, [sg_r (a + 1), sg_r (a + 2)]) ∧ h.2 (a + 1) = some (111, [sg_r (a + 3), sg_r (a + 5), sg_r (a + 7), sg_r (a + 9)]) ∧ h.2 (a + 2) = some (111, [sg_r (a + 11), sg_r (a + 13)]) := by
  obtain ⟨i, hi, rfl, hc⟩ := hs
  obtain ⟨k1, k2, k3, -⟩ := ck_sx i hi hc
  obtain ⟨e, e1, e2⟩ := hx i hi
  obtain ⟨f, f1, f2⟩ := hx (i + 1) (by omega)
  obtain ⟨g, g1, g2⟩ := hx (i + 2) (by omega)
  unfold ck_ok at e2 f2 g2
  rw [hc] at e2
  rw [k2] at f2
  rw [k3] at g2
  refine ⟨e1.trans (by rw [e2]), ?_, ?_⟩
  · rw [show B + i + 1 = B + (i + 1) by omega, f1, f2]
    simp only [Nat.add_assoc, Nat.reduceAdd]
  · rw [show B + i + 2 = B + (i + 2) by omega, g1, g2]
    simp only [Nat.add_assoc, Nat.reduceAdd]
theorem ck_row {B a : Nat} {p : Int} (hs : ck_S B a) (h0 : 0 ≤ p) (h1 : p < 4) : ∃ b, ([sg_r (a + 3), sg_r (a + 5), sg_r (a + 7), sg_r (a + 9)] : List sg_V)[p.toNat]? = some (sg_r b) ∧ ck_L B b 0 := by
  obtain ⟨i, hi, rfl, hc⟩ := hs
  obtain ⟨k1, k2, k3, k4, k5, k6, k7, -⟩ := ck_sx i hi hc
  rcases (show p = 0 ∨ p = 1 ∨ p = 2 ∨ p = 3 by omega) with rfl | rfl | rfl | rfl
  · exact ⟨_, rfl, i + 3, by omega, by omega, k4⟩
  · exact ⟨_, rfl, i + 5, by omega, by omega, k5⟩
  · exact ⟨_, rfl, i + 7, by omega, by omega, k6⟩
  · exact ⟨_, rfl, i + 9, by omega, by omega, k7⟩
theorem ck_trk {B a : Nat} {p : Int} (hs : ck_S B a) (h0 : 0 ≤ p) (h1 : p < 2) : ∃ b, ([sg_r (a + 11), sg_r (a + 13)] : List sg_V)[p.toNat]? = some (sg_r b) ∧ ck_L B b 1 := by
  obtain ⟨i, hi, rfl, hc⟩ := hs
  obtain ⟨k1, k2, k3, k4, k5, k6, k7, k8, k9⟩ := ck_sx i hi hc
  rcases (show p = 0 ∨ p = 1 by omega) with rfl | rfl
  · exact ⟨_, rfl, i + 11, by omega, by omega, k8⟩
  · exact ⟨_, rfl, i + 13, by omega, by omega, k9⟩
theorem ck_now {B : Nat} : ck_S B (B + 1) := ⟨1, by decide, rfl, by decide +kernel⟩
theorem ck_rev {B : Nat} : ck_L B (B + 108) 2 := ⟨108, by decide, rfl, by decide +kernel⟩
theorem ck_obj {B : Nat} {h : sg_H} (hx : ck_X h B) : ∃ z : Int, h.2 B = some (6, [sg_r (B + 1), sg_r (B + 16), sg_r (B + 108), sg_i z]) := by
  obtain ⟨e, e1, e2⟩ := hx 0 (by decide)
  obtain ⟨z, rfl⟩ : ∃ z : Int, e = (6, [sg_r (B + 1), sg_r (B + 16), sg_r (B + 108), sg_i z]) := e2
  exact ⟨z, e1⟩
theorem ck_psx {B : Nat} {h : sg_H} (hx : ck_X h B) : ∃ (z : Int) (vs : List sg_V), h.2 (B + 16) = some (4, [sg_r (B + 17), sg_i z]) ∧ h.2 (B + 17) = some (112, vs) ∧ vs.length = 6 ∧ ∀ p : Int, 0 ≤ p → p < 6 → ∃ a, vs[p.toNat]? = some (sg_r a) ∧ ck_S B a := by
  obtain ⟨e, e1, e2⟩ := hx 16 (by decide)
  obtain ⟨f, f1, f2⟩ := hx 17 (by decide)
  obtain ⟨z, rfl⟩ : ∃ z : Int, e = (4, [sg_r (B + 17), sg_i z]) := e2
  obtain ⟨vs, v1, v2, rfl⟩ : ∃ f' : List Nat, f'.length = 6 ∧ (∀ x ∈ f', x < 110 ∧ (ck x).1 = 3) ∧ f = (112, f'.map fun x => sg_r (B + x)) := f2
  refine ⟨z, _, e1, f1, by rw [List.length_map]; exact v1, fun p p0 p1 => ?_⟩
  have hp : p.toNat < vs.length := by omega
  obtain ⟨q1, q2⟩ := v2 _ (List.getElem_mem hp)
  exact ⟨B + vs[p.toNat], by simp [hp], _, q1, rfl, q2⟩
section
variable {w : sg_W} {mi : sg_M} {d mc ms : Nat} {Q : sg_O → sg_H → Prop} {pc : Nat} {lv : List (Nat × sg_V)} {st : List sg_V} {h : sg_H} {k n : Nat} {B a c : Nat} {h0 : sg_H}
end
/-! GENCV: calls on the class's things -/
section
variable {w : sg_W} {mi : sg_M} {d mc ms : Nat} {Q : sg_O → sg_H → Prop} {pc : Nat} {lv : List (Nat × sg_V)} {st : List sg_V} {h : sg_H} {k n : Nat}
theorem sg_cE0 {mi' : sg_M} {d' mc' ms' idx b : Nat} (t : Nat) {q : vw_C} (g : sg_G w) (hd : decode mi.2.1 pc = .ok (.invokevirtual idx, 3)) (hc : sg_cb mi' 0) (hl : sg_ok (.methodLink mi.1.cls idx mi'.1)) (hin : sg_ok (.instanceMethod mi'.1)) (hq : vwCl[t % 200]? = some q) (hsel : sg_ok (.selects q.1 mi'.1 mi'.1)) (ht : t % 200 < 100) (hb : ∃ us, h.2 b = some (t, us)) (hr : sg_cs st ≤ 8) (hd' : d' + 1 ≤ d) (hk : k + mc' ≤ mc) (hn : n + ms' ≤ ms) (hm : sg_C w mi' d' mc' ms' (sg_r b :: []) h (sg_K w mi d mc ms Q pc lv st (k + mc') (n + ms'))) : sg_R w mi d mc ms Q pc lv (sg_r b :: st) h k n := by
  obtain ⟨us, hb⟩ := hb
  exact sg_callV (as := []) (rest := st) g hd hc hl hin hsel hq ht rfl hb rfl hr hd' hk hn hm
theorem sg_cE1 {mi' : sg_M} {d' mc' ms' idx b : Nat} (t : Nat) {q : vw_C} {a0 : sg_V} (g : sg_G w) (hd : decode mi.2.1 pc = .ok (.invokevirtual idx, 3)) (hc : sg_cb mi' 1) (hl : sg_ok (.methodLink mi.1.cls idx mi'.1)) (hin : sg_ok (.instanceMethod mi'.1)) (hq : vwCl[t % 200]? = some q) (hsel : sg_ok (.selects q.1 mi'.1 mi'.1)) (ht : t % 200 < 100) (hb : ∃ us, h.2 b = some (t, us)) (hr : sg_cs st ≤ 8) (hd' : d' + 1 ≤ d) (hk : k + mc' ≤ mc) (hn : n + ms' ≤ ms) (hm : sg_C w mi' d' mc' ms' (sg_r b :: [a0]) h (sg_K w mi d mc ms Q pc lv st (k + mc') (n + ms'))) : sg_R w mi d mc ms Q pc lv (a0 :: sg_r b :: st) h k n := by
  obtain ⟨us, hb⟩ := hb
  exact sg_callV (as := [a0]) (rest := st) g hd hc hl hin hsel hq ht rfl hb rfl hr hd' hk hn hm
theorem sg_cE2 {mi' : sg_M} {d' mc' ms' idx b : Nat} (t : Nat) {q : vw_C} {a0 a1 : sg_V} (g : sg_G w) (hd : decode mi.2.1 pc = .ok (.invokevirtual idx, 3)) (hc : sg_cb mi' 2) (hl : sg_ok (.methodLink mi.1.cls idx mi'.1)) (hin : sg_ok (.instanceMethod mi'.1)) (hq : vwCl[t % 200]? = some q) (hsel : sg_ok (.selects q.1 mi'.1 mi'.1)) (ht : t % 200 < 100) (hb : ∃ us, h.2 b = some (t, us)) (hr : sg_cs st ≤ 8) (hd' : d' + 1 ≤ d) (hk : k + mc' ≤ mc) (hn : n + ms' ≤ ms) (hm : sg_C w mi' d' mc' ms' (sg_r b :: [a0, a1]) h (sg_K w mi d mc ms Q pc lv st (k + mc') (n + ms'))) : sg_R w mi d mc ms Q pc lv (a1 :: a0 :: sg_r b :: st) h k n := by
  obtain ⟨us, hb⟩ := hb
  exact sg_callV (as := [a0, a1]) (rest := st) g hd hc hl hin hsel hq ht rfl hb rfl hr hd' hk hn hm
theorem sg_cE3 {mi' : sg_M} {d' mc' ms' idx b : Nat} (t : Nat) {q : vw_C} {a0 a1 a2 : sg_V} (g : sg_G w) (hd : decode mi.2.1 pc = .ok (.invokevirtual idx, 3)) (hc : sg_cb mi' 3) (hl : sg_ok (.methodLink mi.1.cls idx mi'.1)) (hin : sg_ok (.instanceMethod mi'.1)) (hq : vwCl[t % 200]? = some q) (hsel : sg_ok (.selects q.1 mi'.1 mi'.1)) (ht : t % 200 < 100) (hb : ∃ us, h.2 b = some (t, us)) (hr : sg_cs st ≤ 8) (hd' : d' + 1 ≤ d) (hk : k + mc' ≤ mc) (hn : n + ms' ≤ ms) (hm : sg_C w mi' d' mc' ms' (sg_r b :: [a0, a1, a2]) h (sg_K w mi d mc ms Q pc lv st (k + mc') (n + ms'))) : sg_R w mi d mc ms Q pc lv (a2 :: a1 :: a0 :: sg_r b :: st) h k n := by
  obtain ⟨us, hb⟩ := hb
  exact sg_callV (as := [a0, a1, a2]) (rest := st) g hd hc hl hin hsel hq ht rfl hb rfl hr hd' hk hn hm
theorem sg_cE5 {mi' : sg_M} {d' mc' ms' idx b : Nat} (t : Nat) {q : vw_C} {a0 a1 a2 a3 a4 : sg_V} (g : sg_G w) (hd : decode mi.2.1 pc = .ok (.invokevirtual idx, 3)) (hc : sg_cb mi' 5) (hl : sg_ok (.methodLink mi.1.cls idx mi'.1)) (hin : sg_ok (.instanceMethod mi'.1)) (hq : vwCl[t % 200]? = some q) (hsel : sg_ok (.selects q.1 mi'.1 mi'.1)) (ht : t % 200 < 100) (hb : ∃ us, h.2 b = some (t, us)) (hr : sg_cs st ≤ 8) (hd' : d' + 1 ≤ d) (hk : k + mc' ≤ mc) (hn : n + ms' ≤ ms) (hm : sg_C w mi' d' mc' ms' (sg_r b :: [a0, a1, a2, a3, a4]) h (sg_K w mi d mc ms Q pc lv st (k + mc') (n + ms'))) : sg_R w mi d mc ms Q pc lv (a4 :: a3 :: a2 :: a1 :: a0 :: sg_r b :: st) h k n := by
  obtain ⟨us, hb⟩ := hb
  exact sg_callV (as := [a0, a1, a2, a3, a4]) (rest := st) g hd hc hl hin hsel hq ht rfl hb rfl hr hd' hk hn hm
end
theorem ck_lc {B a c : Nat} {h : sg_H} (hx : ck_X h B) (hl : ck_L B a c) : ∃ us, h.2 a = some (3, us) := by
  obtain ⟨n, zs, -, -, -, -, -, hA, -, -⟩ := ck_ln hx hl
  exact ⟨_, hA⟩
theorem ck_sc {B a : Nat} {h : sg_H} (hx : ck_X h B) (hs : ck_S B a) : ∃ us, h.2 a = some (5, us) := ⟨_, (ck_sl hx hs).1⟩
theorem ck_pc {B : Nat} {h : sg_H} (hx : ck_X h B) : ∃ us, h.2 (B + 16) = some (4, us) := by
  obtain ⟨z, vs, hP, -⟩ := ck_psx hx
  exact ⟨_, hP⟩
theorem ck_oc {B : Nat} {h : sg_H} (hx : ck_X h B) : ∃ us, h.2 B = some (6, us) := by
  obtain ⟨z, hz⟩ := ck_obj hx
  exact ⟨_, hz⟩

