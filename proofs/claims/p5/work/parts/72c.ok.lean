/-! EACH STEP KEEPS THE STATE'S BOUNDS -/
section
variable {A : fa_A} {L N L' : List Int} {row trk fr to many x nr rx kind isx a b c e k : Int}
theorem ok_row (ok : fa_ok A) {i : Nat} (hi : i < 4) (hl : L'.length ≤ 40) (hv : ∀ z ∈ L', 0 ≤ z ∧ z ≤ 255) : fa_ok (fa_put A i L') :=
  fa_okp ok (by omega) (by rw [if_pos hi]; exact hl) (by rw [if_pos hi]; exact hv)
theorem ok_trk (ok : fa_ok A) {i : Nat} (h4 : 4 ≤ i) (hi : i < 6) (hl : L'.length ≤ 24) (hv : ∀ z ∈ L', 0 ≤ z ∧ z ≤ 65535) : fa_ok (fa_put A i L') :=
  fa_okp ok hi (by rw [if_neg (by omega)]; exact hl) (by rw [if_neg (by omega)]; exact hv)
theorem ok_lay (ok : fa_ok A) (hL : fa_L A row.toNat = L) (n1 : ¬ (row < 0 ∨ 4 ≤ row)) (n2 : ¬ ((a ≠ -1 ∧ (a < 0 ∨ 255 < a)) ∨ (b ≠ -1 ∧ (b < 0 ∨ 255 < b)) ∨ (c ≠ -1 ∧ (c < 0 ∨ 255 < c)) ∨ (e ≠ -1 ∧ (e < 0 ∨ 255 < e)))) (n3 : ¬ (40 < L.length + (fs_lay a b c e).length)) : fa_ok (fa_put A row.toNat (L ++ fs_lay a b c e)) := by
  have r := fa_row ok (i := row.toNat) (by omega)
  rw [hL] at r
  refine ok_row ok (by omega) (by rw [List.length_append]; omega) (fun z hz => ?_)
  rcases List.mem_append.mp hz with q | q
  · exact r.2 z q
  · rw [← fo_lay] at q
    obtain ⟨q1, q2⟩ := List.mem_filter.mp q
    have q3 := of_decide_eq_true q2
    simp only [List.mem_cons, List.not_mem_nil, or_false] at q1
    omega
theorem ok_drop (ok : fa_ok A) (hL : fa_L A row.toNat = L) (n1 : ¬ (row < 0 ∨ 4 ≤ row)) (n2 : ¬ (many < 0 ∨ (L.length : Int) < many)) : fa_ok (fa_put A row.toNat (L.take (L.length - many.toNat))) := by
  have r := fa_row ok (i := row.toNat) (by omega)
  rw [hL] at r
  exact ok_row ok (by omega) (by rw [List.length_take]; omega) (fun z hz => r.2 z (List.mem_of_mem_take hz))
theorem ok_cut (ok : fa_ok A) (hL : fa_L A (4 + trk.toNat) = L) (n1 : ¬ (trk < 0 ∨ 2 ≤ trk)) (n2 : ¬ (many < 0 ∨ (L.length : Int) < many)) : fa_ok (fa_put A (4 + trk.toNat) (L.take (L.length - many.toNat))) := by
  have r := fa_trk ok (i := 4 + trk.toNat) (by omega) (by omega)
  rw [hL] at r
  exact ok_trk ok (by omega) (by omega) (by rw [List.length_take]; omega) (fun z hz => r.2 z (List.mem_of_mem_take hz))
theorem ok_copy (ok : fa_ok A) (hL : fa_L A fr.toNat = L) (_ : fa_L A to.toNat = N) (n1 : ¬ (fr < 0 ∨ 4 ≤ fr ∨ to < 0 ∨ 4 ≤ to)) : fa_ok (fa_put A to.toNat L) := by
  have r := fa_row ok (i := fr.toNat) (by omega)
  rw [hL] at r
  exact ok_row ok (by omega) r.1 r.2
theorem rz_b {s : Int} (h : 0 ≤ s ∧ s ≤ 255) : 0 ≤ rz s ∧ rz s ≤ 255 := by
  unfold rz
  split
  · assumption
  · exact h
theorem ok_raise (ok : fa_ok A) (hL : fa_L A row.toNat = L) (n1 : ¬ (row < 0 ∨ 4 ≤ row)) : fa_ok (fa_put A row.toNat (L.map rz)) := by
  have r := fa_row ok (i := row.toNat) (by omega)
  rw [hL] at r
  refine ok_row ok (by omega) (by rw [List.length_map]; exact r.1) (fun z hz => ?_)
  obtain ⟨q, hq, rfl⟩ := List.mem_map.mp hz
  exact rz_b (r.2 q hq)
theorem ok_sink (ok : fa_ok A) (hL : fa_L A row.toNat = L) (n1 : ¬ (row < 0 ∨ 4 ≤ row)) : fa_ok (fa_put A row.toNat (L.map fn_lower)) := by
  have r := fa_row ok (i := row.toNat) (by omega)
  rw [hL] at r
  refine ok_row ok (by omega) (by rw [List.length_map]; exact r.1) (fun z hz => ?_)
  obtain ⟨q, hq, rfl⟩ := List.mem_map.mp hz
  exact fn_lob (r.2 q hq)
theorem ok_sieve (ok : fa_ok A) (hL : fa_L A row.toNat = L) (n1 : ¬ (row < 0 ∨ 4 ≤ row)) (_ : ¬ (kind < 0 ∨ 4 < kind)) : fa_ok (fa_put A row.toNat (L.filter (fs_is kind isx))) := by
  have r := fa_row ok (i := row.toNat) (by omega)
  rw [hL] at r
  have l := List.length_filter_le (fs_is kind isx) L
  exact ok_row ok (by omega) (by omega) (fun z hz => r.2 z (List.mem_filter.mp hz).1)
theorem fs_stripm {z : Int} (h : z ∈ fs_strip L) : z ∈ L := by
  unfold fs_strip at h
  split at h
  · exact List.mem_of_mem_take (List.mem_of_mem_drop h)
  · exact h
theorem fs_stripb : (fs_strip L).length ≤ L.length := by
  unfold fs_strip
  split
  · rw [List.length_drop, List.length_take]; omega
  · exact Nat.le_refl _
theorem ok_strip (ok : fa_ok A) (hL : fa_L A row.toNat = L) (n1 : ¬ (row < 0 ∨ 4 ≤ row)) : fa_ok (fa_put A row.toNat (fs_strip L)) := by
  have r := fa_row ok (i := row.toNat) (by omega)
  rw [hL] at r
  have l := fs_stripb (L := L)
  exact ok_row ok (by omega) (by omega) (fun z hz => r.2 z (fs_stripm hz))
theorem ok_turn (ok : fa_ok A) (hL : fa_L A row.toNat = L) (n1 : ¬ (row < 0 ∨ 4 ≤ row)) : fa_ok (fa_put A row.toNat L.reverse) := by
  have r := fa_row ok (i := row.toNat) (by omega)
  rw [hL] at r
  exact ok_row ok (by omega) (by rw [List.length_reverse]; exact r.1) (fun z hz => r.2 z (List.mem_reverse.mp hz))
theorem tt_mem {α : Type} {n : Nat} {f : Nat → α} {z : α} (h : z ∈ tt_b n f) : ∃ j, j < n ∧ z = f j := by
  unfold tt_b at h
  obtain ⟨j, hj, rfl⟩ := List.mem_map.mp h
  exact ⟨j, List.mem_range.mp hj, rfl⟩
theorem fn_dgb {x r : Int} : 0 ≤ fn_digit x r ∧ fn_digit x r ≤ 255 := by
  unfold fn_digit fn_radix
  (repeat' split) <;> omega
theorem fs_digsm {z : Int} (h : z ∈ fs_digs nr rx) : 0 ≤ z ∧ z ≤ 255 := by
  unfold fs_digs at h
  split at h
  · obtain ⟨j, -, rfl⟩ := tt_mem h
    exact fn_dgb
  · cases h
theorem ok_write (ok : fa_ok A) (hL : fa_L A row.toNat = L) (n1 : ¬ (row < 0 ∨ 4 ≤ row)) (_ : ¬ (nr < 0 ∨ 999999 < nr ∨ rx < 2 ∨ 36 < rx)) : fa_ok (if 40 < L.length + (fs_digs nr rx).length then A else fa_put A row.toNat (L ++ (fs_digs nr rx))) := by
  have r := fa_row ok (i := row.toNat) (by omega)
  rw [hL] at r
  split
  · exact ok
  · exact ok_row ok (by omega) (by rw [List.length_append]; omega) (fun z hz => (List.mem_append.mp hz).elim (r.2 z) fs_digsm)
theorem ok_spell (ok : fa_ok A) (_ : fa_L A fr.toNat = L) (_ : fa_L A to.toNat = N) (n1 : ¬ (fr < 0 ∨ 4 ≤ fr ∨ to < 0 ∨ 4 ≤ to)) (_ : ¬ (fr = to)) : fa_ok (if 40 < 2 * L.length then A else fa_put A to.toNat (fs_spell L)) := by
  split
  · exact ok
  · refine ok_row ok (by omega) (by unfold fs_spell; rw [tt_len]; omega) (fun z hz => ?_)
    obtain ⟨j, -, rfl⟩ := tt_mem hz
    exact fn_dgb
theorem ok_read (ok : fa_ok A) (hL : fa_L A fr.toNat = L) (_ : fa_L A to.toNat = N) (n1 : ¬ (fr < 0 ∨ 4 ≤ fr ∨ to < 0 ∨ 4 ≤ to)) (_ : ¬ (fr = to)) : fa_ok (@ite fa_A (fs_can L) (Classical.propDecidable _) (fa_put A to.toNat (fs_read L)) A) := by
  have r := fa_row ok (i := fr.toNat) (by omega)
  rw [hL] at r
  by_cases hc : fs_can L
  · rw [if_pos hc]
    refine ok_row ok (by omega) (by unfold fs_read; rw [tt_len]; omega) (fun z hz => ?_)
    obtain ⟨j, hj, rfl⟩ := tt_mem hz
    have c1 := hc.2 (2 * j) (by omega)
    have c2 := hc.2 (2 * j + 1) (by omega)
    have b1 := fn_numb (L.getD (2 * j) 0)
    have b2 := fn_numb (L.getD (2 * j + 1) 0)
    unfold fs_rd
    omega
  · rw [if_neg hc]
    exact ok
theorem ok_send (ok : fa_ok A) (hL : fa_L A (4 + trk.toNat) = L) (n1 : ¬ (trk < 0 ∨ 2 ≤ trk)) (n2 : ¬ (x < 0 ∨ 1114111 < x)) : fa_ok (if 24 < L.length + (fs_sent x).length then A else fa_put A (4 + trk.toNat) (L ++ fs_sent x)) := by
  have r := fa_trk ok (i := 4 + trk.toNat) (by omega) (by omega)
  rw [hL] at r
  split
  · exact ok
  · exact ok_trk ok (by omega) (by omega) (by rw [List.length_append]; omega) (fun z hz => (List.mem_append.mp hz).elim (r.2 z) (fs_sr (by omega) (by omega) z))
theorem ok_put (ok : fa_ok A) (hL : fa_L A (4 + trk.toNat) = L) (n1 : ¬ (trk < 0 ∨ 2 ≤ trk)) (n2 : ¬ (x < 0 ∨ 65535 < x)) : fa_ok (if 24 < L.length + 1 then A else fa_put A (4 + trk.toNat) (L ++ [x])) := by
  have r := fa_trk ok (i := 4 + trk.toNat) (by omega) (by omega)
  rw [hL] at r
  split
  · exact ok
  · refine ok_trk ok (by omega) (by omega) (by rw [List.length_append]; show L.length + 1 ≤ 24; omega) (fun z hz => (List.mem_append.mp hz).elim (r.2 z) (fun q => ?_))
    have := List.mem_singleton.mp q
    omega
theorem ok_flip (ok : fa_ok A) (hL : fa_L A (4 + trk.toNat) = L) (n1 : ¬ (trk < 0 ∨ 2 ≤ trk)) : fa_ok (fa_put A (4 + trk.toNat) (L.map fn_turn)) := by
  have r := fa_trk ok (i := 4 + trk.toNat) (by omega) (by omega)
  rw [hL] at r
  refine ok_trk ok (by omega) (by omega) (by rw [List.length_map]; exact r.1) (fun z hz => ?_)
  obtain ⟨q, hq, rfl⟩ := List.mem_map.mp hz
  have := r.2 q hq
  unfold fn_turn
  omega
theorem ok_reverse (ok : fa_ok A) (hL : fa_L A (4 + trk.toNat) = L) (n1 : ¬ (trk < 0 ∨ 2 ≤ trk)) : fa_ok (fa_put A (4 + trk.toNat) ((fs_codes L).reverse.flatMap fs_sent)) := by
  have r := fa_trk ok (i := 4 + trk.toNat) (by omega) (by omega)
  rw [hL] at r
  have hl := fs_rvl r.2 (k := (fs_codes L).length)
  rw [fs_rvn (Nat.le_refl _)] at hl
  refine ok_trk ok (by omega) (by omega) (by omega) (fun z hz => ?_)
  obtain ⟨q, hq, hz⟩ := List.mem_flatMap.mp hz
  have := fs_csr r.2 (Nat.le_refl _) q (List.mem_reverse.mp hq)
  exact fs_sr this.1 this.2 z hz
theorem ok_undo (ok : fa_ok A) (n1 : ¬ (A.2.1.length = 0)) : fa_ok (A.2.1.headD [], (A.2.1.tail, A.2.2)) := by
  obtain ⟨o1, o2, o3⟩ := ok
  obtain ⟨A1, A2, A3⟩ := A
  dsimp only at n1 o2 o3 ⊢
  cases A2 with
  | nil => exact absurd rfl n1
  | cons P R =>
    refine ⟨o2 P List.mem_cons_self, fun q hq => o2 q (List.mem_cons_of_mem _ hq), ?_⟩
    have : (P :: R).length ≤ 6 := o3
    rw [List.length_cons] at this
    show R.length ≤ 6
    omega
theorem ok_kn (ok : fa_ok A) : fa_ok (A.1, (A.2.1, k)) := ⟨ok.1, ok.2.1, ok.2.2⟩
def fa_0 : fa_A := ([[], [], [], [], [], []], ([], 0))
theorem ok_0 : fa_ok fa_0 := by
  refine ⟨⟨rfl, fun i hi => ?_⟩, fun P hP => (nomatch hP), by decide⟩
  have e : fa_0.1.getD i [] = [] := by
    rcases (show i = 0 ∨ i = 1 ∨ i = 2 ∨ i = 3 ∨ i = 4 ∨ i = 5 by omega) with rfl | rfl | rfl | rfl | rfl | rfl <;> rfl
  rw [e]
  exact ⟨Nat.zero_le _, fun z hz => (nomatch hz)⟩
end

