theorem jw_inc {w : sg_W} {h0 h : sg_H} {b cap a : Nat} {sz : Int} {zs : List Int} (P : jw_P w h0 h b cap sz) (a0 : h0.1 ≤ a) (ha : h.2 a = some (100, zs.map sg_i)) (hz : zs.length = 2) {i : Nat} {x : Int} : jw_P w h0 (h.1, sg_up h.2 a (100, (zs.map sg_i).set i (sg_i x))) b cap sz := by
  obtain ⟨b0, E0, b1, m, E, xs, hb, hE, s0, sc, hj⟩ := P
  have nb : b ≠ a := fun q => by rw [q, ha] at hb; cases hb
  have kp : ∀ q, md_A 0 h q 2 → md_A 0 (h.1, sg_up h.2 a (100, (zs.map sg_i).set i (sg_i x))) q 2 := fun q z => by
    by_cases c : q = a
    · subst c
      exact ⟨z.1, zs.set i x, by rw [List.length_set]; exact hz, fun _ _ => ck_v0, by rw [List.map_set]; exact sg_up_s⟩
    · exact md_Akeep z (Nat.le_refl _) (sg_up_n c)
  refine ⟨b0, ⟨E0.1, fun q hq => (sg_up_n (by omega)).trans (E0.2 q hq)⟩, b1, m, E, xs, (sg_up_n nb).trans hb, ?_, s0, sc, fun j h9 => ?_⟩
  · rcases hE with ⟨e1, e2, e3, e4⟩ | ⟨e1, e2, e3, e4⟩
    · exact Or.inl ⟨e1, e2, (sg_up_n (fun q => by rw [q, ha] at e3; cases e3)).trans e3, e4⟩
    · exact Or.inr ⟨e1, e2, (sg_up_n (fun q => by rw [q, ha] at e3; cases e3)).trans e3, e4⟩
  · obtain ⟨q, e1, e2, e3⟩ := hj j h9
    exact ⟨q, e1, e2, kp q e3⟩
theorem jw_E {w : sg_W} {h0 h h' : sg_H} {b cap : Nat} {sz : Int} (P : jw_P w h0 h b cap sz) (e : md_E h h') (hf : ∀ y x, h.2 y = some x → y < h.1) : jw_P w h0 h' b cap sz := by
  obtain ⟨b0, E0, b1, m, E, xs, hb, hE, s0, sc, hj⟩ := P
  refine ⟨b0, md_Et E0 e, Nat.lt_of_lt_of_le b1 e.1, m, E, xs, (e.2 b b1).trans hb, ?_, s0, sc, fun j h9 => ?_⟩
  · rcases hE with ⟨e1, e2, e3, e4⟩ | ⟨e1, e2, e3, e4⟩
    · exact Or.inl ⟨e1, e2, (e.2 E (hf _ _ e3)).trans e3, e4⟩
    · exact Or.inr ⟨e1, e2, (e.2 E (hf _ _ e3)).trans e3, e4⟩
  · obtain ⟨q, e1, e2, e3⟩ := hj j h9
    exact ⟨q, e1, e2, md_AE e3 e⟩
