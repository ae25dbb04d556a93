theorem tm_1 {x : Cond} (h : x ∈ tables_1_1) : x ∈ lw_tbl := List.mem_append_right _ (show x ∈ tables_1 from (List.mem_append_left _ h))
theorem tm_2 {x : Cond} (h : x ∈ tables_1_2) : x ∈ lw_tbl := List.mem_append_right _ (show x ∈ tables_1 from (List.mem_append_right _ (List.mem_append_left _ h)))
theorem tm_3 {x : Cond} (h : x ∈ tables_1_3) : x ∈ lw_tbl := List.mem_append_right _ (show x ∈ tables_1 from (List.mem_append_right _ (List.mem_append_right _ (List.mem_append_left _ h))))
theorem tm_4 {x : Cond} (h : x ∈ tables_1_4) : x ∈ lw_tbl := List.mem_append_right _ (show x ∈ tables_1 from (List.mem_append_right _ (List.mem_append_right _ (List.mem_append_right _ (List.mem_append_left _ h)))))
theorem tm_5 {x : Cond} (h : x ∈ tables_1_5) : x ∈ lw_tbl := List.mem_append_right _ (show x ∈ tables_1 from (List.mem_append_right _ (List.mem_append_right _ (List.mem_append_right _ (List.mem_append_right _ (List.mem_append_left _ h))))))
theorem tm_6 {x : Cond} (h : x ∈ tables_1_6) : x ∈ lw_tbl := List.mem_append_right _ (show x ∈ tables_1 from (List.mem_append_right _ (List.mem_append_right _ (List.mem_append_right _ (List.mem_append_right _ (List.mem_append_right _ (List.mem_append_left _ h)))))))
theorem tm_7 {x : Cond} (h : x ∈ tables_1_7) : x ∈ lw_tbl := List.mem_append_right _ (show x ∈ tables_1 from (List.mem_append_right _ (List.mem_append_right _ (List.mem_append_right _ (List.mem_append_right _ (List.mem_append_right _ (List.mem_append_right _ (List.mem_append_left _ h))))))))
theorem tm_8 {x : Cond} (h : x ∈ tables_1_8) : x ∈ lw_tbl := List.mem_append_right _ (show x ∈ tables_1 from (List.mem_append_right _ (List.mem_append_right _ (List.mem_append_right _ (List.mem_append_right _ (List.mem_append_right _ (List.mem_append_right _ (List.mem_append_right _ h))))))))
theorem tl16 {x0 x1 x2 x3 x4 x5 x6 x7 x8 x9 x10 x11 x12 x13 x14 x15 : Cond} {t : List Cond} (h : ∀ x ∈ (x0 :: x1 :: x2 :: x3 :: x4 :: x5 :: x6 :: x7 :: x8 :: x9 :: x10 :: x11 :: x12 :: x13 :: x14 :: x15 :: t), x ∈ lw_tbl) : ((((x0 ∈ lw_tbl ∧ x1 ∈ lw_tbl) ∧ (x2 ∈ lw_tbl ∧ x3 ∈ lw_tbl)) ∧ ((x4 ∈ lw_tbl ∧ x5 ∈ lw_tbl) ∧ (x6 ∈ lw_tbl ∧ x7 ∈ lw_tbl))) ∧ (((x8 ∈ lw_tbl ∧ x9 ∈ lw_tbl) ∧ (x10 ∈ lw_tbl ∧ x11 ∈ lw_tbl)) ∧ ((x12 ∈ lw_tbl ∧ x13 ∈ lw_tbl) ∧ (x14 ∈ lw_tbl ∧ x15 ∈ lw_tbl)))) ∧ ∀ x ∈ t, x ∈ lw_tbl := by
  simp only [List.forall_mem_cons] at h
  obtain ⟨h0, h1, h2, h3, h4, h5, h6, h7, h8, h9, h10, h11, h12, h13, h14, h15, ht⟩ := h
  exact ⟨⟨⟨⟨⟨h0, h1⟩, ⟨h2, h3⟩⟩, ⟨⟨h4, h5⟩, ⟨h6, h7⟩⟩⟩, ⟨⟨⟨h8, h9⟩, ⟨h10, h11⟩⟩, ⟨⟨h12, h13⟩, ⟨h14, h15⟩⟩⟩⟩, ht⟩
def ts_1_0 := tl16 (show ∀ x ∈ tables_1_1, x ∈ lw_tbl from fun _ h => tm_1 h)
def ts_1_16 := tl16 ts_1_0.2
def ts_1_32 := tl16 ts_1_16.2
def ts_1_48 := tl16 ts_1_32.2
def ts_1_64 := tl16 ts_1_48.2
def ts_1_80 := tl16 ts_1_64.2
