def mi_L_law : sg_M := (x, cL_law, 7, some .boolean)
theorem jk_x {xs : List Int} {z : Int} (h0 : 0 ≤ z) (h1 : z < (xs.length : Int)) : (xs.map sg_i)[z.toNat]? = some (sg_i (xs.getD z.toNat 0)) := by
  have h2 : z.toNat < xs.length := by omega
  rw [List.getElem?_map, List.getElem?_eq_getElem h2, List.getD_eq_getElem?_getD, List.getElem?_eq_getElem h2]
  rfl
theorem jf80 : jf (2 * 40) = 13661 := by decide +kernel
theorem jf40 : jf 40 = 3061 := by decide +kernel

theorem st_cS2 {w : sg_W} {mi : sg_M} {hh : List (Nat × Nat × Nat × Nat)} {d mc ms : Nat} {Q : sg_O → sg_H → Prop} {pc : Nat} {lv : List (Nat × sg_V)} {st : List sg_V} {h : sg_H} {k n : Nat} {mi' : sg_M} {d' mc' ms' idx : Nat} {a0 a1 : sg_V} (g : sg_G w) (hd : decode mi.2.1 pc = .ok (.invokestatic idx, 3)) (hcw : sg_ok (.codeWith mi'.1 mi'.2.1 mi'.2.2.1 mi'.2.2.2 hh)) (hcl : sg_ok (.initialized mi'.1.cls) ∧ (mi'.1.cls ≠ "java/lang/invoke/MethodHandle" ∧ mi'.1.cls ≠ "java/lang/invoke/VarHandle") ∧ (parseMethodDescriptor mi'.1.desc).map (fun d => d.parameters.length) = some 2 ∧ mi'.2.2.1 ≤ 61) (hl : sg_ok (.methodLink mi.1.cls idx mi'.1)) (hsta : sg_ok (.static mi'.1)) (hr : sg_cs st ≤ 8) (hd' : d' + 1 ≤ d) (hk : k + mc' ≤ mc) (hn : n + ms' ≤ ms) (hm : sg_D w mi' hh d' mc' ms' [a0, a1] h (sg_K w mi d mc ms Q pc lv st (k + mc') (n + ms'))) : sg_R w mi d mc ms Q pc lv (a1 :: a0 :: st) h k n := st_callS (as := [a0, a1]) (rest := st) g hd hcw hcl hl hsta rfl rfl hr hd' hk hn hm
theorem st_cS3 {w : sg_W} {mi : sg_M} {hh : List (Nat × Nat × Nat × Nat)} {d mc ms : Nat} {Q : sg_O → sg_H → Prop} {pc : Nat} {lv : List (Nat × sg_V)} {st : List sg_V} {h : sg_H} {k n : Nat} {mi' : sg_M} {d' mc' ms' idx : Nat} {a0 a1 a2 : sg_V} (g : sg_G w) (hd : decode mi.2.1 pc = .ok (.invokestatic idx, 3)) (hcw : sg_ok (.codeWith mi'.1 mi'.2.1 mi'.2.2.1 mi'.2.2.2 hh)) (hcl : sg_ok (.initialized mi'.1.cls) ∧ (mi'.1.cls ≠ "java/lang/invoke/MethodHandle" ∧ mi'.1.cls ≠ "java/lang/invoke/VarHandle") ∧ (parseMethodDescriptor mi'.1.desc).map (fun d => d.parameters.length) = some 3 ∧ mi'.2.2.1 ≤ 61) (hl : sg_ok (.methodLink mi.1.cls idx mi'.1)) (hsta : sg_ok (.static mi'.1)) (hr : sg_cs st ≤ 8) (hd' : d' + 1 ≤ d) (hk : k + mc' ≤ mc) (hn : n + ms' ≤ ms) (hm : sg_D w mi' hh d' mc' ms' [a0, a1, a2] h (sg_K w mi d mc ms Q pc lv st (k + mc') (n + ms'))) : sg_R w mi d mc ms Q pc lv (a2 :: a1 :: a0 :: st) h k n := st_callS (as := [a0, a1, a2]) (rest := st) g hd hcw hcl hl hsta rfl rfl hr hd' hk hn hm
theorem st_cS4 {w : sg_W} {mi : sg_M} {hh : List (Nat × Nat × Nat × Nat)} {d mc ms : Nat} {Q : sg_O → sg_H → Prop} {pc : Nat} {lv : List (Nat × sg_V)} {st : List sg_V} {h : sg_H} {k n : Nat} {mi' : sg_M} {d' mc' ms' idx : Nat} {a0 a1 a2 a3 : sg_V} (g : sg_G w) (hd : decode mi.2.1 pc = .ok (.invokestatic idx, 3)) (hcw : sg_ok (.codeWith mi'.1 mi'.2.1 mi'.2.2.1 mi'.2.2.2 hh)) (hcl : sg_ok (.initialized mi'.1.cls) ∧ (mi'.1.cls ≠ "java/lang/invoke/MethodHandle" ∧ mi'.1.cls ≠ "java/lang/invoke/VarHandle") ∧ (parseMethodDescriptor mi'.1.desc).map (fun d => d.parameters.length) = some 4 ∧ mi'.2.2.1 ≤ 61) (hl : sg_ok (.methodLink mi.1.cls idx mi'.1)) (hsta : sg_ok (.static mi'.1)) (hr : sg_cs st ≤ 8) (hd' : d' + 1 ≤ d) (hk : k + mc' ≤ mc) (hn : n + ms' ≤ ms) (hm : sg_D w mi' hh d' mc' ms' [a0, a1, a2, a3] h (sg_K w mi d mc ms Q pc lv st (k + mc') (n + ms'))) : sg_R w mi d mc ms Q pc lv (a3 :: a2 :: a1 :: a0 :: st) h k n := st_callS (as := [a0, a1, a2, a3]) (rest := st) g hd hcw hcl hl hsta rfl rfl hr hd' hk hn hm
theorem st_cS5 {w : sg_W} {mi : sg_M} {hh : List (Nat × Nat × Nat × Nat)} {d mc ms : Nat} {Q : sg_O → sg_H → Prop} {pc : Nat} {lv : List (Nat × sg_V)} {st : List sg_V} {h : sg_H} {k n : Nat} {mi' : sg_M} {d' mc' ms' idx : Nat} {a0 a1 a2 a3 a4 : sg_V} (g : sg_G w) (hd : decode mi.2.1 pc = .ok (.invokestatic idx, 3)) (hcw : sg_ok (.codeWith mi'.1 mi'.2.1 mi'.2.2.1 mi'.2.2.2 hh)) (hcl : sg_ok (.initialized mi'.1.cls) ∧ (mi'.1.cls ≠ "java/lang/invoke/MethodHandle" ∧ mi'.1.cls ≠ "java/lang/invoke/VarHandle") ∧ (parseMethodDescriptor mi'.1.desc).map (fun d => d.parameters.length) = some 5 ∧ mi'.2.2.1 ≤ 61) (hl : sg_ok (.methodLink mi.1.cls idx mi'.1)) (hsta : sg_ok (.static mi'.1)) (hr : sg_cs st ≤ 8) (hd' : d' + 1 ≤ d) (hk : k + mc' ≤ mc) (hn : n + ms' ≤ ms) (hm : sg_D w mi' hh d' mc' ms' [a0, a1, a2, a3, a4] h (sg_K w mi d mc ms Q pc lv st (k + mc') (n + ms'))) : sg_R w mi d mc ms Q pc lv (a4 :: a3 :: a2 :: a1 :: a0 :: st) h k n := st_callS (as := [a0, a1, a2, a3, a4]) (rest := st) g hd hcw hcl hl hsta rfl rfl hr hd' hk hn hm
theorem st_cS7 {w : sg_W} {mi : sg_M} {hh : List (Nat × Nat × Nat × Nat)} {d mc ms : Nat} {Q : sg_O → sg_H → Prop} {pc : Nat} {lv : List (Nat × sg_V)} {st : List sg_V} {h : sg_H} {k n : Nat} {mi' : sg_M} {d' mc' ms' idx : Nat} {a0 a1 a2 a3 a4 a5 a6 : sg_V} (g : sg_G w) (hd : decode mi.2.1 pc = .ok (.invokestatic idx, 3)) (hcw : sg_ok (.codeWith mi'.1 mi'.2.1 mi'.2.2.1 mi'.2.2.2 hh)) (hcl : sg_ok (.initialized mi'.1.cls) ∧ (mi'.1.cls ≠ "java/lang/invoke/MethodHandle" ∧ mi'.1.cls ≠ "java/lang/invoke/VarHandle") ∧ (parseMethodDescriptor mi'.1.desc).map (fun d => d.parameters.length) = some 7 ∧ mi'.2.2.1 ≤ 61) (hl : sg_ok (.methodLink mi.1.cls idx mi'.1)) (hsta : sg_ok (.static mi'.1)) (hr : sg_cs st ≤ 8) (hd' : d' + 1 ≤ d) (hk : k + mc' ≤ mc) (hn : n + ms' ≤ ms) (hm : sg_D w mi' hh d' mc' ms' [a0, a1, a2, a3, a4, a5, a6] h (sg_K w mi d mc ms Q pc lv st (k + mc') (n + ms'))) : sg_R w mi d mc ms Q pc lv (a6 :: a5 :: a4 :: a3 :: a2 :: a1 :: a0 :: st) h k n := st_callS (as := [a0, a1, a2, a3, a4, a5, a6]) (rest := st) g hd hcw hcl hl hsta rfl rfl hr hd' hk hn hm
theorem cw_L_lay : sg_ok (.initialized mi_L_lay.1.cls) ∧ (mi_L_lay.1.cls ≠ "java/lang/invoke/MethodHandle" ∧ mi_L_lay.1.cls ≠ "java/lang/invoke/VarHandle") ∧ (parseMethodDescriptor mi_L_lay.1.desc).map (fun d => d.parameters.length) = some 7 ∧ mi_L_lay.2.2.1 ≤ 61 := ⟨sg_okt 0 (by decide +kernel), ⟨by decide +kernel, by decide +kernel⟩, by decide +kernel, by decide +kernel⟩
theorem cw_L_drop : sg_ok (.initialized mi_L_drop.1.cls) ∧ (mi_L_drop.1.cls ≠ "java/lang/invoke/MethodHandle" ∧ mi_L_drop.1.cls ≠ "java/lang/invoke/VarHandle") ∧ (parseMethodDescriptor mi_L_drop.1.desc).map (fun d => d.parameters.length) = some 4 ∧ mi_L_drop.2.2.1 ≤ 61 := ⟨sg_okt 0 (by decide +kernel), ⟨by decide +kernel, by decide +kernel⟩, by decide +kernel, by decide +kernel⟩
theorem cw_L_copy : sg_ok (.initialized mi_L_copy.1.cls) ∧ (mi_L_copy.1.cls ≠ "java/lang/invoke/MethodHandle" ∧ mi_L_copy.1.cls ≠ "java/lang/invoke/VarHandle") ∧ (parseMethodDescriptor mi_L_copy.1.desc).map (fun d => d.parameters.length) = some 4 ∧ mi_L_copy.2.2.1 ≤ 61 := ⟨sg_okt 0 (by decide +kernel), ⟨by decide +kernel, by decide +kernel⟩, by decide +kernel, by decide +kernel⟩
theorem cw_L_raise : sg_ok (.initialized mi_L_raise.1.cls) ∧ (mi_L_raise.1.cls ≠ "java/lang/invoke/MethodHandle" ∧ mi_L_raise.1.cls ≠ "java/lang/invoke/VarHandle") ∧ (parseMethodDescriptor mi_L_raise.1.desc).map (fun d => d.parameters.length) = some 3 ∧ mi_L_raise.2.2.1 ≤ 61 := ⟨sg_okt 0 (by decide +kernel), ⟨by decide +kernel, by decide +kernel⟩, by decide +kernel, by decide +kernel⟩
theorem cw_L_sink : sg_ok (.initialized mi_L_sink.1.cls) ∧ (mi_L_sink.1.cls ≠ "java/lang/invoke/MethodHandle" ∧ mi_L_sink.1.cls ≠ "java/lang/invoke/VarHandle") ∧ (parseMethodDescriptor mi_L_sink.1.desc).map (fun d => d.parameters.length) = some 3 ∧ mi_L_sink.2.2.1 ≤ 61 := ⟨sg_okt 0 (by decide +kernel), ⟨by decide +kernel, by decide +kernel⟩, by decide +kernel, by decide +kernel⟩
theorem cw_L_sieve : sg_ok (.initialized mi_L_sieve.1.cls) ∧ (mi_L_sieve.1.cls ≠ "java/lang/invoke/MethodHandle" ∧ mi_L_sieve.1.cls ≠ "java/lang/invoke/VarHandle") ∧ (parseMethodDescriptor mi_L_sieve.1.desc).map (fun d => d.parameters.length) = some 5 ∧ mi_L_sieve.2.2.1 ≤ 61 := ⟨sg_okt 0 (by decide +kernel), ⟨by decide +kernel, by decide +kernel⟩, by decide +kernel, by decide +kernel⟩
theorem cw_L_strip : sg_ok (.initialized mi_L_strip.1.cls) ∧ (mi_L_strip.1.cls ≠ "java/lang/invoke/MethodHandle" ∧ mi_L_strip.1.cls ≠ "java/lang/invoke/VarHandle") ∧ (parseMethodDescriptor mi_L_strip.1.desc).map (fun d => d.parameters.length) = some 3 ∧ mi_L_strip.2.2.1 ≤ 61 := ⟨sg_okt 0 (by decide +kernel), ⟨by decide +kernel, by decide +kernel⟩, by decide +kernel, by decide +kernel⟩
theorem cw_L_turn : sg_ok (.initialized mi_L_turn.1.cls) ∧ (mi_L_turn.1.cls ≠ "java/lang/invoke/MethodHandle" ∧ mi_L_turn.1.cls ≠ "java/lang/invoke/VarHandle") ∧ (parseMethodDescriptor mi_L_turn.1.desc).map (fun d => d.parameters.length) = some 3 ∧ mi_L_turn.2.2.1 ≤ 61 := ⟨sg_okt 0 (by decide +kernel), ⟨by decide +kernel, by decide +kernel⟩, by decide +kernel, by decide +kernel⟩
theorem cw_L_write : sg_ok (.initialized mi_L_write.1.cls) ∧ (mi_L_write.1.cls ≠ "java/lang/invoke/MethodHandle" ∧ mi_L_write.1.cls ≠ "java/lang/invoke/VarHandle") ∧ (parseMethodDescriptor mi_L_write.1.desc).map (fun d => d.parameters.length) = some 5 ∧ mi_L_write.2.2.1 ≤ 61 := ⟨sg_okt 0 (by decide +kernel), ⟨by decide +kernel, by decide +kernel⟩, by decide +kernel, by decide +kernel⟩
theorem cw_L_spell : sg_ok (.initialized mi_L_spell.1.cls) ∧ (mi_L_spell.1.cls ≠ "java/lang/invoke/MethodHandle" ∧ mi_L_spell.1.cls ≠ "java/lang/invoke/VarHandle") ∧ (parseMethodDescriptor mi_L_spell.1.desc).map (fun d => d.parameters.length) = some 4 ∧ mi_L_spell.2.2.1 ≤ 61 := ⟨sg_okt 0 (by decide +kernel), ⟨by decide +kernel, by decide +kernel⟩, by decide +kernel, by decide +kernel⟩
theorem cw_L_read : sg_ok (.initialized mi_L_read.1.cls) ∧ (mi_L_read.1.cls ≠ "java/lang/invoke/MethodHandle" ∧ mi_L_read.1.cls ≠ "java/lang/invoke/VarHandle") ∧ (parseMethodDescriptor mi_L_read.1.desc).map (fun d => d.parameters.length) = some 4 ∧ mi_L_read.2.2.1 ≤ 61 := ⟨sg_okt 0 (by decide +kernel), ⟨by decide +kernel, by decide +kernel⟩, by decide +kernel, by decide +kernel⟩
theorem cw_L_send : sg_ok (.initialized mi_L_send.1.cls) ∧ (mi_L_send.1.cls ≠ "java/lang/invoke/MethodHandle" ∧ mi_L_send.1.cls ≠ "java/lang/invoke/VarHandle") ∧ (parseMethodDescriptor mi_L_send.1.desc).map (fun d => d.parameters.length) = some 4 ∧ mi_L_send.2.2.1 ≤ 61 := ⟨sg_okt 0 (by decide +kernel), ⟨by decide +kernel, by decide +kernel⟩, by decide +kernel, by decide +kernel⟩
theorem cw_L_put : sg_ok (.initialized mi_L_put.1.cls) ∧ (mi_L_put.1.cls ≠ "java/lang/invoke/MethodHandle" ∧ mi_L_put.1.cls ≠ "java/lang/invoke/VarHandle") ∧ (parseMethodDescriptor mi_L_put.1.desc).map (fun d => d.parameters.length) = some 4 ∧ mi_L_put.2.2.1 ≤ 61 := ⟨sg_okt 0 (by decide +kernel), ⟨by decide +kernel, by decide +kernel⟩, by decide +kernel, by decide +kernel⟩
theorem cw_L_cut : sg_ok (.initialized mi_L_cut.1.cls) ∧ (mi_L_cut.1.cls ≠ "java/lang/invoke/MethodHandle" ∧ mi_L_cut.1.cls ≠ "java/lang/invoke/VarHandle") ∧ (parseMethodDescriptor mi_L_cut.1.desc).map (fun d => d.parameters.length) = some 4 ∧ mi_L_cut.2.2.1 ≤ 61 := ⟨sg_okt 0 (by decide +kernel), ⟨by decide +kernel, by decide +kernel⟩, by decide +kernel, by decide +kernel⟩
theorem cw_L_flip : sg_ok (.initialized mi_L_flip.1.cls) ∧ (mi_L_flip.1.cls ≠ "java/lang/invoke/MethodHandle" ∧ mi_L_flip.1.cls ≠ "java/lang/invoke/VarHandle") ∧ (parseMethodDescriptor mi_L_flip.1.desc).map (fun d => d.parameters.length) = some 3 ∧ mi_L_flip.2.2.1 ≤ 61 := ⟨sg_okt 0 (by decide +kernel), ⟨by decide +kernel, by decide +kernel⟩, by decide +kernel, by decide +kernel⟩
theorem cw_L_reverse : sg_ok (.initialized mi_L_reverse.1.cls) ∧ (mi_L_reverse.1.cls ≠ "java/lang/invoke/MethodHandle" ∧ mi_L_reverse.1.cls ≠ "java/lang/invoke/VarHandle") ∧ (parseMethodDescriptor mi_L_reverse.1.desc).map (fun d => d.parameters.length) = some 3 ∧ mi_L_reverse.2.2.1 ≤ 61 := ⟨sg_okt 0 (by decide +kernel), ⟨by decide +kernel, by decide +kernel⟩, by decide +kernel, by decide +kernel⟩
theorem cw_L_undo : sg_ok (.initialized mi_L_undo.1.cls) ∧ (mi_L_undo.1.cls ≠ "java/lang/invoke/MethodHandle" ∧ mi_L_undo.1.cls ≠ "java/lang/invoke/VarHandle") ∧ (parseMethodDescriptor mi_L_undo.1.desc).map (fun d => d.parameters.length) = some 2 ∧ mi_L_undo.2.2.1 ≤ 61 := ⟨sg_okt 0 (by decide +kernel), ⟨by decide +kernel, by decide +kernel⟩, by decide +kernel, by decide +kernel⟩
theorem cw_L_isDigit : sg_ok (.initialized mi_L_isDigit.1.cls) ∧ (mi_L_isDigit.1.cls ≠ "java/lang/invoke/MethodHandle" ∧ mi_L_isDigit.1.cls ≠ "java/lang/invoke/VarHandle") ∧ (parseMethodDescriptor mi_L_isDigit.1.desc).map (fun d => d.parameters.length) = some 3 ∧ mi_L_isDigit.2.2.1 ≤ 61 := ⟨sg_okt 0 (by decide +kernel), ⟨by decide +kernel, by decide +kernel⟩, by decide +kernel, by decide +kernel⟩
theorem cw_L_isLetter : sg_ok (.initialized mi_L_isLetter.1.cls) ∧ (mi_L_isLetter.1.cls ≠ "java/lang/invoke/MethodHandle" ∧ mi_L_isLetter.1.cls ≠ "java/lang/invoke/VarHandle") ∧ (parseMethodDescriptor mi_L_isLetter.1.desc).map (fun d => d.parameters.length) = some 3 ∧ mi_L_isLetter.2.2.1 ≤ 61 := ⟨sg_okt 0 (by decide +kernel), ⟨by decide +kernel, by decide +kernel⟩, by decide +kernel, by decide +kernel⟩
theorem cw_L_isLetterOrDigit : sg_ok (.initialized mi_L_isLetterOrDigit.1.cls) ∧ (mi_L_isLetterOrDigit.1.cls ≠ "java/lang/invoke/MethodHandle" ∧ mi_L_isLetterOrDigit.1.cls ≠ "java/lang/invoke/VarHandle") ∧ (parseMethodDescriptor mi_L_isLetterOrDigit.1.desc).map (fun d => d.parameters.length) = some 3 ∧ mi_L_isLetterOrDigit.2.2.1 ≤ 61 := ⟨sg_okt 0 (by decide +kernel), ⟨by decide +kernel, by decide +kernel⟩, by decide +kernel, by decide +kernel⟩
theorem cw_L_isWhite : sg_ok (.initialized mi_L_isWhite.1.cls) ∧ (mi_L_isWhite.1.cls ≠ "java/lang/invoke/MethodHandle" ∧ mi_L_isWhite.1.cls ≠ "java/lang/invoke/VarHandle") ∧ (parseMethodDescriptor mi_L_isWhite.1.desc).map (fun d => d.parameters.length) = some 3 ∧ mi_L_isWhite.2.2.1 ≤ 61 := ⟨sg_okt 0 (by decide +kernel), ⟨by decide +kernel, by decide +kernel⟩, by decide +kernel, by decide +kernel⟩
theorem cw_L_isGreat : sg_ok (.initialized mi_L_isGreat.1.cls) ∧ (mi_L_isGreat.1.cls ≠ "java/lang/invoke/MethodHandle" ∧ mi_L_isGreat.1.cls ≠ "java/lang/invoke/VarHandle") ∧ (parseMethodDescriptor mi_L_isGreat.1.desc).map (fun d => d.parameters.length) = some 3 ∧ mi_L_isGreat.2.2.1 ≤ 61 := ⟨sg_okt 0 (by decide +kernel), ⟨by decide +kernel, by decide +kernel⟩, by decide +kernel, by decide +kernel⟩
theorem cw_L_kinds : sg_ok (.initialized mi_L_kinds.1.cls) ∧ (mi_L_kinds.1.cls ≠ "java/lang/invoke/MethodHandle" ∧ mi_L_kinds.1.cls ≠ "java/lang/invoke/VarHandle") ∧ (parseMethodDescriptor mi_L_kinds.1.desc).map (fun d => d.parameters.length) = some 3 ∧ mi_L_kinds.2.2.1 ≤ 61 := ⟨sg_okt 0 (by decide +kernel), ⟨by decide +kernel, by decide +kernel⟩, by decide +kernel, by decide +kernel⟩
theorem cw_L_upper : sg_ok (.initialized mi_L_upper.1.cls) ∧ (mi_L_upper.1.cls ≠ "java/lang/invoke/MethodHandle" ∧ mi_L_upper.1.cls ≠ "java/lang/invoke/VarHandle") ∧ (parseMethodDescriptor mi_L_upper.1.desc).map (fun d => d.parameters.length) = some 4 ∧ mi_L_upper.2.2.1 ≤ 61 := ⟨sg_okt 0 (by decide +kernel), ⟨by decide +kernel, by decide +kernel⟩, by decide +kernel, by decide +kernel⟩
theorem cw_L_lower : sg_ok (.initialized mi_L_lower.1.cls) ∧ (mi_L_lower.1.cls ≠ "java/lang/invoke/MethodHandle" ∧ mi_L_lower.1.cls ≠ "java/lang/invoke/VarHandle") ∧ (parseMethodDescriptor mi_L_lower.1.desc).map (fun d => d.parameters.length) = some 4 ∧ mi_L_lower.2.2.1 ≤ 61 := ⟨sg_okt 0 (by decide +kernel), ⟨by decide +kernel, by decide +kernel⟩, by decide +kernel, by decide +kernel⟩
theorem cw_L_value : sg_ok (.initialized mi_L_value.1.cls) ∧ (mi_L_value.1.cls ≠ "java/lang/invoke/MethodHandle" ∧ mi_L_value.1.cls ≠ "java/lang/invoke/VarHandle") ∧ (parseMethodDescriptor mi_L_value.1.desc).map (fun d => d.parameters.length) = some 4 ∧ mi_L_value.2.2.1 ≤ 61 := ⟨sg_okt 0 (by decide +kernel), ⟨by decide +kernel, by decide +kernel⟩, by decide +kernel, by decide +kernel⟩
theorem cw_L_number : sg_ok (.initialized mi_L_number.1.cls) ∧ (mi_L_number.1.cls ≠ "java/lang/invoke/MethodHandle" ∧ mi_L_number.1.cls ≠ "java/lang/invoke/VarHandle") ∧ (parseMethodDescriptor mi_L_number.1.desc).map (fun d => d.parameters.length) = some 5 ∧ mi_L_number.2.2.1 ≤ 61 := ⟨sg_okt 0 (by decide +kernel), ⟨by decide +kernel, by decide +kernel⟩, by decide +kernel, by decide +kernel⟩
theorem cw_L_length : sg_ok (.initialized mi_L_length.1.cls) ∧ (mi_L_length.1.cls ≠ "java/lang/invoke/MethodHandle" ∧ mi_L_length.1.cls ≠ "java/lang/invoke/VarHandle") ∧ (parseMethodDescriptor mi_L_length.1.desc).map (fun d => d.parameters.length) = some 3 ∧ mi_L_length.2.2.1 ≤ 61 := ⟨sg_okt 0 (by decide +kernel), ⟨by decide +kernel, by decide +kernel⟩, by decide +kernel, by decide +kernel⟩
theorem cw_L_at : sg_ok (.initialized mi_L_at.1.cls) ∧ (mi_L_at.1.cls ≠ "java/lang/invoke/MethodHandle" ∧ mi_L_at.1.cls ≠ "java/lang/invoke/VarHandle") ∧ (parseMethodDescriptor mi_L_at.1.desc).map (fun d => d.parameters.length) = some 4 ∧ mi_L_at.2.2.1 ≤ 61 := ⟨sg_okt 0 (by decide +kernel), ⟨by decide +kernel, by decide +kernel⟩, by decide +kernel, by decide +kernel⟩
theorem cw_L_count : sg_ok (.initialized mi_L_count.1.cls) ∧ (mi_L_count.1.cls ≠ "java/lang/invoke/MethodHandle" ∧ mi_L_count.1.cls ≠ "java/lang/invoke/VarHandle") ∧ (parseMethodDescriptor mi_L_count.1.desc).map (fun d => d.parameters.length) = some 4 ∧ mi_L_count.2.2.1 ≤ 61 := ⟨sg_okt 0 (by decide +kernel), ⟨by decide +kernel, by decide +kernel⟩, by decide +kernel, by decide +kernel⟩
theorem cw_L_first : sg_ok (.initialized mi_L_first.1.cls) ∧ (mi_L_first.1.cls ≠ "java/lang/invoke/MethodHandle" ∧ mi_L_first.1.cls ≠ "java/lang/invoke/VarHandle") ∧ (parseMethodDescriptor mi_L_first.1.desc).map (fun d => d.parameters.length) = some 5 ∧ mi_L_first.2.2.1 ≤ 61 := ⟨sg_okt 0 (by decide +kernel), ⟨by decide +kernel, by decide +kernel⟩, by decide +kernel, by decide +kernel⟩
theorem cw_L_last : sg_ok (.initialized mi_L_last.1.cls) ∧ (mi_L_last.1.cls ≠ "java/lang/invoke/MethodHandle" ∧ mi_L_last.1.cls ≠ "java/lang/invoke/VarHandle") ∧ (parseMethodDescriptor mi_L_last.1.desc).map (fun d => d.parameters.length) = some 4 ∧ mi_L_last.2.2.1 ≤ 61 := ⟨sg_okt 0 (by decide +kernel), ⟨by decide +kernel, by decide +kernel⟩, by decide +kernel, by decide +kernel⟩
theorem cw_L_forms : sg_ok (.initialized mi_L_forms.1.cls) ∧ (mi_L_forms.1.cls ≠ "java/lang/invoke/MethodHandle" ∧ mi_L_forms.1.cls ≠ "java/lang/invoke/VarHandle") ∧ (parseMethodDescriptor mi_L_forms.1.desc).map (fun d => d.parameters.length) = some 3 ∧ mi_L_forms.2.2.1 ≤ 61 := ⟨sg_okt 0 (by decide +kernel), ⟨by decide +kernel, by decide +kernel⟩, by decide +kernel, by decide +kernel⟩
theorem cw_L_spelled : sg_ok (.initialized mi_L_spelled.1.cls) ∧ (mi_L_spelled.1.cls ≠ "java/lang/invoke/MethodHandle" ∧ mi_L_spelled.1.cls ≠ "java/lang/invoke/VarHandle") ∧ (parseMethodDescriptor mi_L_spelled.1.desc).map (fun d => d.parameters.length) = some 3 ∧ mi_L_spelled.2.2.1 ≤ 61 := ⟨sg_okt 0 (by decide +kernel), ⟨by decide +kernel, by decide +kernel⟩, by decide +kernel, by decide +kernel⟩
theorem cw_L_told : sg_ok (.initialized mi_L_told.1.cls) ∧ (mi_L_told.1.cls ≠ "java/lang/invoke/MethodHandle" ∧ mi_L_told.1.cls ≠ "java/lang/invoke/VarHandle") ∧ (parseMethodDescriptor mi_L_told.1.desc).map (fun d => d.parameters.length) = some 4 ∧ mi_L_told.2.2.1 ≤ 61 := ⟨sg_okt 0 (by decide +kernel), ⟨by decide +kernel, by decide +kernel⟩, by decide +kernel, by decide +kernel⟩
theorem cw_L_sum : sg_ok (.initialized mi_L_sum.1.cls) ∧ (mi_L_sum.1.cls ≠ "java/lang/invoke/MethodHandle" ∧ mi_L_sum.1.cls ≠ "java/lang/invoke/VarHandle") ∧ (parseMethodDescriptor mi_L_sum.1.desc).map (fun d => d.parameters.length) = some 4 ∧ mi_L_sum.2.2.1 ≤ 61 := ⟨sg_okt 0 (by decide +kernel), ⟨by decide +kernel, by decide +kernel⟩, by decide +kernel, by decide +kernel⟩
theorem cw_L_values : sg_ok (.initialized mi_L_values.1.cls) ∧ (mi_L_values.1.cls ≠ "java/lang/invoke/MethodHandle" ∧ mi_L_values.1.cls ≠ "java/lang/invoke/VarHandle") ∧ (parseMethodDescriptor mi_L_values.1.desc).map (fun d => d.parameters.length) = some 3 ∧ mi_L_values.2.2.1 ≤ 61 := ⟨sg_okt 0 (by decide +kernel), ⟨by decide +kernel, by decide +kernel⟩, by decide +kernel, by decide +kernel⟩
theorem cw_L_words : sg_ok (.initialized mi_L_words.1.cls) ∧ (mi_L_words.1.cls ≠ "java/lang/invoke/MethodHandle" ∧ mi_L_words.1.cls ≠ "java/lang/invoke/VarHandle") ∧ (parseMethodDescriptor mi_L_words.1.desc).map (fun d => d.parameters.length) = some 3 ∧ mi_L_words.2.2.1 ≤ 61 := ⟨sg_okt 0 (by decide +kernel), ⟨by decide +kernel, by decide +kernel⟩, by decide +kernel, by decide +kernel⟩
theorem cw_L_word : sg_ok (.initialized mi_L_word.1.cls) ∧ (mi_L_word.1.cls ≠ "java/lang/invoke/MethodHandle" ∧ mi_L_word.1.cls ≠ "java/lang/invoke/VarHandle") ∧ (parseMethodDescriptor mi_L_word.1.desc).map (fun d => d.parameters.length) = some 5 ∧ mi_L_word.2.2.1 ≤ 61 := ⟨sg_okt 0 (by decide +kernel), ⟨by decide +kernel, by decide +kernel⟩, by decide +kernel, by decide +kernel⟩
theorem cw_L_isAlike : sg_ok (.initialized mi_L_isAlike.1.cls) ∧ (mi_L_isAlike.1.cls ≠ "java/lang/invoke/MethodHandle" ∧ mi_L_isAlike.1.cls ≠ "java/lang/invoke/VarHandle") ∧ (parseMethodDescriptor mi_L_isAlike.1.desc).map (fun d => d.parameters.length) = some 4 ∧ mi_L_isAlike.2.2.1 ≤ 61 := ⟨sg_okt 0 (by decide +kernel), ⟨by decide +kernel, by decide +kernel⟩, by decide +kernel, by decide +kernel⟩
theorem cw_L_order : sg_ok (.initialized mi_L_order.1.cls) ∧ (mi_L_order.1.cls ≠ "java/lang/invoke/MethodHandle" ∧ mi_L_order.1.cls ≠ "java/lang/invoke/VarHandle") ∧ (parseMethodDescriptor mi_L_order.1.desc).map (fun d => d.parameters.length) = some 4 ∧ mi_L_order.2.2.1 ≤ 61 := ⟨sg_okt 0 (by decide +kernel), ⟨by decide +kernel, by decide +kernel⟩, by decide +kernel, by decide +kernel⟩
theorem cw_L_half : sg_ok (.initialized mi_L_half.1.cls) ∧ (mi_L_half.1.cls ≠ "java/lang/invoke/MethodHandle" ∧ mi_L_half.1.cls ≠ "java/lang/invoke/VarHandle") ∧ (parseMethodDescriptor mi_L_half.1.desc).map (fun d => d.parameters.length) = some 4 ∧ mi_L_half.2.2.1 ≤ 61 := ⟨sg_okt 0 (by decide +kernel), ⟨by decide +kernel, by decide +kernel⟩, by decide +kernel, by decide +kernel⟩
theorem cw_L_code : sg_ok (.initialized mi_L_code.1.cls) ∧ (mi_L_code.1.cls ≠ "java/lang/invoke/MethodHandle" ∧ mi_L_code.1.cls ≠ "java/lang/invoke/VarHandle") ∧ (parseMethodDescriptor mi_L_code.1.desc).map (fun d => d.parameters.length) = some 4 ∧ mi_L_code.2.2.1 ≤ 61 := ⟨sg_okt 0 (by decide +kernel), ⟨by decide +kernel, by decide +kernel⟩, by decide +kernel, by decide +kernel⟩
theorem cw_L_ofUnit : sg_ok (.initialized mi_L_ofUnit.1.cls) ∧ (mi_L_ofUnit.1.cls ≠ "java/lang/invoke/MethodHandle" ∧ mi_L_ofUnit.1.cls ≠ "java/lang/invoke/VarHandle") ∧ (parseMethodDescriptor mi_L_ofUnit.1.desc).map (fun d => d.parameters.length) = some 4 ∧ mi_L_ofUnit.2.2.1 ≤ 61 := ⟨sg_okt 0 (by decide +kernel), ⟨by decide +kernel, by decide +kernel⟩, by decide +kernel, by decide +kernel⟩
theorem cw_L_compare : sg_ok (.initialized mi_L_compare.1.cls) ∧ (mi_L_compare.1.cls ≠ "java/lang/invoke/MethodHandle" ∧ mi_L_compare.1.cls ≠ "java/lang/invoke/VarHandle") ∧ (parseMethodDescriptor mi_L_compare.1.desc).map (fun d => d.parameters.length) = some 4 ∧ mi_L_compare.2.2.1 ≤ 61 := ⟨sg_okt 0 (by decide +kernel), ⟨by decide +kernel, by decide +kernel⟩, by decide +kernel, by decide +kernel⟩
theorem cw_L_ofTrack : sg_ok (.initialized mi_L_ofTrack.1.cls) ∧ (mi_L_ofTrack.1.cls ≠ "java/lang/invoke/MethodHandle" ∧ mi_L_ofTrack.1.cls ≠ "java/lang/invoke/VarHandle") ∧ (parseMethodDescriptor mi_L_ofTrack.1.desc).map (fun d => d.parameters.length) = some 4 ∧ mi_L_ofTrack.2.2.1 ≤ 61 := ⟨sg_okt 0 (by decide +kernel), ⟨by decide +kernel, by decide +kernel⟩, by decide +kernel, by decide +kernel⟩
theorem cw_L_unit : sg_ok (.initialized mi_L_unit.1.cls) ∧ (mi_L_unit.1.cls ≠ "java/lang/invoke/MethodHandle" ∧ mi_L_unit.1.cls ≠ "java/lang/invoke/VarHandle") ∧ (parseMethodDescriptor mi_L_unit.1.desc).map (fun d => d.parameters.length) = some 4 ∧ mi_L_unit.2.2.1 ≤ 61 := ⟨sg_okt 0 (by decide +kernel), ⟨by decide +kernel, by decide +kernel⟩, by decide +kernel, by decide +kernel⟩
theorem cw_L_codeAt : sg_ok (.initialized mi_L_codeAt.1.cls) ∧ (mi_L_codeAt.1.cls ≠ "java/lang/invoke/MethodHandle" ∧ mi_L_codeAt.1.cls ≠ "java/lang/invoke/VarHandle") ∧ (parseMethodDescriptor mi_L_codeAt.1.desc).map (fun d => d.parameters.length) = some 4 ∧ mi_L_codeAt.2.2.1 ≤ 61 := ⟨sg_okt 0 (by decide +kernel), ⟨by decide +kernel, by decide +kernel⟩, by decide +kernel, by decide +kernel⟩
theorem cw_L_nth : sg_ok (.initialized mi_L_nth.1.cls) ∧ (mi_L_nth.1.cls ≠ "java/lang/invoke/MethodHandle" ∧ mi_L_nth.1.cls ≠ "java/lang/invoke/VarHandle") ∧ (parseMethodDescriptor mi_L_nth.1.desc).map (fun d => d.parameters.length) = some 4 ∧ mi_L_nth.2.2.1 ≤ 61 := ⟨sg_okt 0 (by decide +kernel), ⟨by decide +kernel, by decide +kernel⟩, by decide +kernel, by decide +kernel⟩
theorem cw_L_house : sg_ok (.initialized mi_L_house.1.cls) ∧ (mi_L_house.1.cls ≠ "java/lang/invoke/MethodHandle" ∧ mi_L_house.1.cls ≠ "java/lang/invoke/VarHandle") ∧ (parseMethodDescriptor mi_L_house.1.desc).map (fun d => d.parameters.length) = some 3 ∧ mi_L_house.2.2.1 ≤ 61 := ⟨sg_okt 0 (by decide +kernel), ⟨by decide +kernel, by decide +kernel⟩, by decide +kernel, by decide +kernel⟩
set_option maxRecDepth 100000 in
set_option maxHeartbeats 1000000 in
theorem lw_c0 {w : sg_W} {Q : sg_O → sg_H → Prop} {h : sg_H} (g : sg_G w) (nc : jk_C w) (hJ : jz w) {d mc ms : Nat} (hd : 30 ≤ d) {B M O S j k n : Nat} {xs : List Int} (hI : jk_I w B M O S xs h) (hj : 6 * j + 6 ≤ xs.length) (hl : xs.length ≤ 3072) (hk : k + 1030 ≤ mc) (hn : n + (48 + 1800) ≤ ms) (K : ∀ (h' : sg_H) (k' n' : Nat), jk_I w B M O S xs h' → k' ≤ k + 1030 → n' ≤ n + (48 + 1800) → sg_R w mi_L_law d mc ms Q 2472 [(0, sg_r S), (1, sg_r B), (2, sg_r M), (3, sg_r O), (4, sg_i (6 * (j : Int)))] [] h' k' n') : sg_R w mi_L_law d mc ms Q 292 [(0, sg_r S), (1, sg_r B), (2, sg_r M), (3, sg_r O), (4, sg_i (6 * (j : Int)))] [] h k n := by
  refine sg_aload_n (pc := 292) (j := 1) dL_law_292 rfl rfl ?_
  refine sg_aload_n (pc := 293) (j := 0) dL_law_293 rfl rfl ?_
  refine sg_iload (pc := 294) dL_law_294 rfl ?_
  refine sg_iconst (pc := 296) (z := 1) dL_law_296 (by decide) ?_
  first | refine sg_iaddB (pc := 297) dL_law_297 (by omega) (by omega) ?_ | refine sg_iadd (pc := 297) dL_law_297 ?_
  refine sg_iald (pc := 298) dL_law_298 hI.2.2.2.2.2.2.2.2.2 rfl (by omega) (jk_x (by omega) (by omega)) ?_
  refine sg_aload_n (pc := 299) (j := 0) dL_law_299 rfl rfl ?_
  refine sg_iload (pc := 300) dL_law_300 rfl ?_
  refine sg_iconst (pc := 302) (z := 2) dL_law_302 (by decide) ?_
  first | refine sg_iaddB (pc := 303) dL_law_303 (by omega) (by omega) ?_ | refine sg_iadd (pc := 303) dL_law_303 ?_
  refine sg_iald (pc := 304) dL_law_304 hI.2.2.2.2.2.2.2.2.2 rfl (by omega) (jk_x (by omega) (by omega)) ?_
  refine sg_aload_n (pc := 305) (j := 0) dL_law_305 rfl rfl ?_
  refine sg_iload (pc := 306) dL_law_306 rfl ?_
  refine sg_iconst (pc := 308) (z := 3) dL_law_308 (by decide) ?_
  first | refine sg_iaddB (pc := 309) dL_law_309 (by omega) (by omega) ?_ | refine sg_iadd (pc := 309) dL_law_309 ?_
  refine sg_iald (pc := 310) dL_law_310 hI.2.2.2.2.2.2.2.2.2 rfl (by omega) (jk_x (by omega) (by omega)) ?_
  refine sg_aload_n (pc := 311) (j := 0) dL_law_311 rfl rfl ?_
  refine sg_iload (pc := 312) dL_law_312 rfl ?_
  refine sg_iconst (pc := 314) (z := 4) dL_law_314 (by decide) ?_
  first | refine sg_iaddB (pc := 315) dL_law_315 (by omega) (by omega) ?_ | refine sg_iadd (pc := 315) dL_law_315 ?_
  refine sg_iald (pc := 316) dL_law_316 hI.2.2.2.2.2.2.2.2.2 rfl (by omega) (jk_x (by omega) (by omega)) ?_
  refine sg_aload_n (pc := 317) (j := 0) dL_law_317 rfl rfl ?_
  refine sg_iload (pc := 318) dL_law_318 rfl ?_
  refine sg_iconst (pc := 320) (z := 5) dL_law_320 (by decide) ?_
  first | refine sg_iaddB (pc := 321) dL_law_321 (by omega) (by omega) ?_ | refine sg_iadd (pc := 321) dL_law_321 ?_
  refine sg_iald (pc := 322) dL_law_322 hI.2.2.2.2.2.2.2.2.2 rfl (by omega) (jk_x (by omega) (by omega)) ?_
  refine sg_aload_n (pc := 323) (j := 3) dL_law_323 rfl rfl ?_
  refine st_cS7 (pc := 324) (d' := d - 1) (mc' := 8) (ms' := 48) g dL_law_324 cb_L_lay cw_L_lay ml_L_190 ms_L_lay (Nat.le_of_ble_eq_true rfl) (by first | exact jl_d0 hd rfl | omega) (by first | exact Nat.le_of_ble_eq_true rfl | omega) (by first | exact Nat.le_of_ble_eq_true rfl | omega) ?_
  refine s_L_lay g nc (by omega) hI (fun v1 h1 I1 X1 => sg_K1 ?_)
  refine sg_istore (pc := 327) dL_law_327 (by decide) ?_
  refine sg_aload_n (pc := 329) (j := 2) dL_law_329 rfl rfl ?_
  refine sg_aload_n (pc := 330) (j := 0) dL_law_330 rfl rfl ?_
  refine sg_iload (pc := 331) dL_law_331 rfl ?_
  refine sg_iconst (pc := 333) (z := 1) dL_law_333 (by decide) ?_
  first | refine sg_iaddB (pc := 334) dL_law_334 (by omega) (by omega) ?_ | refine sg_iadd (pc := 334) dL_law_334 ?_
  refine sg_iald (pc := 335) dL_law_335 I1.2.2.2.2.2.2.2.2.2 rfl (by omega) (jk_x (by omega) (by omega)) ?_
  refine sg_aload_n (pc := 336) (j := 0) dL_law_336 rfl rfl ?_
  refine sg_iload (pc := 337) dL_law_337 rfl ?_
  refine sg_iconst (pc := 339) (z := 2) dL_law_339 (by decide) ?_
  first | refine sg_iaddB (pc := 340) dL_law_340 (by omega) (by omega) ?_ | refine sg_iadd (pc := 340) dL_law_340 ?_
  refine sg_iald (pc := 341) dL_law_341 I1.2.2.2.2.2.2.2.2.2 rfl (by omega) (jk_x (by omega) (by omega)) ?_
  refine sg_aload_n (pc := 342) (j := 0) dL_law_342 rfl rfl ?_
  refine sg_iload (pc := 343) dL_law_343 rfl ?_
  refine sg_iconst (pc := 345) (z := 3) dL_law_345 (by decide) ?_
  first | refine sg_iaddB (pc := 346) dL_law_346 (by omega) (by omega) ?_ | refine sg_iadd (pc := 346) dL_law_346 ?_
  refine sg_iald (pc := 347) dL_law_347 I1.2.2.2.2.2.2.2.2.2 rfl (by omega) (jk_x (by omega) (by omega)) ?_
  refine sg_aload_n (pc := 348) (j := 0) dL_law_348 rfl rfl ?_
  refine sg_iload (pc := 349) dL_law_349 rfl ?_
  refine sg_iconst (pc := 351) (z := 4) dL_law_351 (by decide) ?_
  first | refine sg_iaddB (pc := 352) dL_law_352 (by omega) (by omega) ?_ | refine sg_iadd (pc := 352) dL_law_352 ?_
  refine sg_iald (pc := 353) dL_law_353 I1.2.2.2.2.2.2.2.2.2 rfl (by omega) (jk_x (by omega) (by omega)) ?_
  refine sg_aload_n (pc := 354) (j := 0) dL_law_354 rfl rfl ?_
  refine sg_iload (pc := 355) dL_law_355 rfl ?_
  refine sg_iconst (pc := 357) (z := 5) dL_law_357 (by decide) ?_
  first | refine sg_iaddB (pc := 358) dL_law_358 (by omega) (by omega) ?_ | refine sg_iadd (pc := 358) dL_law_358 ?_
  refine sg_iald (pc := 359) dL_law_359 I1.2.2.2.2.2.2.2.2.2 rfl (by omega) (jk_x (by omega) (by omega)) ?_
  refine st_as (fun H r => jk_tgR (B := B) r) ?_
  have m2 := jk_Im I1
  refine sg_cE5 (pc := 360) (d' := d - 1) (mc' := 86) (ms' := 1800) 8 g dL_law_360 cb_X7_lay ml_L_195 mn_X7_lay rfl mv_X7_lay (Nat.le_of_ble_eq_true rfl) (md_oc m2) (Nat.le_of_ble_eq_true rfl) (by first | exact jl_d0 hd rfl | omega) (by first | exact Nat.le_of_ble_eq_true rfl | omega) (by first | exact Nat.le_of_ble_eq_true rfl | omega) ?_
  refine s_X7_lay g (by first | exact jl_d1 hd rfl | omega) m2 (fun v2 h2  y2 => sg_K1 ?_)
  refine st_as (fun H r => jk_unR I1.1 r) ?_
  have I2 := jk_IM I1 y2
  refine sg_istore (pc := 363) dL_law_363 (by decide) ?_
  refine sg_goto (pc := 365) (tgt := 2472) dL_law_365 (by decide) ?_
  refine sg_lsub (lv' := [(0, _), (1, _), (2, _), (3, _), (4, _)]) ⟨rfl, rfl, rfl, rfl, rfl, trivial⟩ ?_
  exact K _ _ _ I2 (by omega) (by omega)

set_option maxRecDepth 100000 in
set_option maxHeartbeats 1000000 in
theorem lw_c1 {w : sg_W} {Q : sg_O → sg_H → Prop} {h : sg_H} (g : sg_G w) (nc : jk_C w) (hJ : jz w) {d mc ms : Nat} (hd : 30 ≤ d) {B M O S j k n : Nat} {xs : List Int} (hI : jk_I w B M O S xs h) (hj : 6 * j + 6 ≤ xs.length) (hl : xs.length ≤ 3072) (hk : k + 1030 ≤ mc) (hn : n + (48 + 56) ≤ ms) (K : ∀ (h' : sg_H) (k' n' : Nat), jk_I w B M O S xs h' → k' ≤ k + 1030 → n' ≤ n + (48 + 56) → sg_R w mi_L_law d mc ms Q 2472 [(0, sg_r S), (1, sg_r B), (2, sg_r M), (3, sg_r O), (4, sg_i (6 * (j : Int)))] [] h' k' n') : sg_R w mi_L_law d mc ms Q 368 [(0, sg_r S), (1, sg_r B), (2, sg_r M), (3, sg_r O), (4, sg_i (6 * (j : Int)))] [] h k n := by
  refine sg_aload_n (pc := 368) (j := 1) dL_law_368 rfl rfl ?_
  refine sg_aload_n (pc := 369) (j := 0) dL_law_369 rfl rfl ?_
  refine sg_iload (pc := 370) dL_law_370 rfl ?_
  refine sg_iconst (pc := 372) (z := 1) dL_law_372 (by decide) ?_
  first | refine sg_iaddB (pc := 373) dL_law_373 (by omega) (by omega) ?_ | refine sg_iadd (pc := 373) dL_law_373 ?_
  refine sg_iald (pc := 374) dL_law_374 hI.2.2.2.2.2.2.2.2.2 rfl (by omega) (jk_x (by omega) (by omega)) ?_
  refine sg_aload_n (pc := 375) (j := 0) dL_law_375 rfl rfl ?_
  refine sg_iload (pc := 376) dL_law_376 rfl ?_
  refine sg_iconst (pc := 378) (z := 2) dL_law_378 (by decide) ?_
  first | refine sg_iaddB (pc := 379) dL_law_379 (by omega) (by omega) ?_ | refine sg_iadd (pc := 379) dL_law_379 ?_
  refine sg_iald (pc := 380) dL_law_380 hI.2.2.2.2.2.2.2.2.2 rfl (by omega) (jk_x (by omega) (by omega)) ?_
  refine sg_aload_n (pc := 381) (j := 3) dL_law_381 rfl rfl ?_
  refine st_cS4 (pc := 382) (d' := d - 1) (mc' := 8) (ms' := 48) g dL_law_382 cb_L_drop cw_L_drop ml_L_196 ms_L_drop (Nat.le_of_ble_eq_true rfl) (by first | exact jl_d0 hd rfl | omega) (by first | exact Nat.le_of_ble_eq_true rfl | omega) (by first | exact Nat.le_of_ble_eq_true rfl | omega) ?_
  refine s_L_drop g nc (by omega) hI (fun v1 h1 I1 X1 => sg_K1 ?_)
  refine sg_istore (pc := 385) dL_law_385 (by decide) ?_
  refine sg_aload_n (pc := 387) (j := 2) dL_law_387 rfl rfl ?_
  refine sg_aload_n (pc := 388) (j := 0) dL_law_388 rfl rfl ?_
  refine sg_iload (pc := 389) dL_law_389 rfl ?_
  refine sg_iconst (pc := 391) (z := 1) dL_law_391 (by decide) ?_
  first | refine sg_iaddB (pc := 392) dL_law_392 (by omega) (by omega) ?_ | refine sg_iadd (pc := 392) dL_law_392 ?_
  refine sg_iald (pc := 393) dL_law_393 I1.2.2.2.2.2.2.2.2.2 rfl (by omega) (jk_x (by omega) (by omega)) ?_
  refine sg_aload_n (pc := 394) (j := 0) dL_law_394 rfl rfl ?_
  refine sg_iload (pc := 395) dL_law_395 rfl ?_
  refine sg_iconst (pc := 397) (z := 2) dL_law_397 (by decide) ?_
  first | refine sg_iaddB (pc := 398) dL_law_398 (by omega) (by omega) ?_ | refine sg_iadd (pc := 398) dL_law_398 ?_
  refine sg_iald (pc := 399) dL_law_399 I1.2.2.2.2.2.2.2.2.2 rfl (by omega) (jk_x (by omega) (by omega)) ?_
  refine st_as (fun H r => jk_tgR (B := B) r) ?_
  have m2 := jk_Im I1
  refine sg_cE2 (pc := 400) (d' := d - 1) (mc' := 3) (ms' := 56) 8 g dL_law_400 cb_X7_drop ml_L_199 mn_X7_drop rfl mv_X7_drop (Nat.le_of_ble_eq_true rfl) (md_oc m2) (Nat.le_of_ble_eq_true rfl) (by first | exact jl_d0 hd rfl | omega) (by first | exact Nat.le_of_ble_eq_true rfl | omega) (by first | exact Nat.le_of_ble_eq_true rfl | omega) ?_
  refine s_X7_drop g (by first | exact jl_d1 hd rfl | omega) m2 (fun v2 h2  y2 => sg_K1 ?_)
  refine st_as (fun H r => jk_unR I1.1 r) ?_
  have I2 := jk_IM I1 y2
  refine sg_istore (pc := 403) dL_law_403 (by decide) ?_
  refine sg_goto (pc := 405) (tgt := 2472) dL_law_405 (by decide) ?_
  refine sg_lsub (lv' := [(0, _), (1, _), (2, _), (3, _), (4, _)]) ⟨rfl, rfl, rfl, rfl, rfl, trivial⟩ ?_
  exact K _ _ _ I2 (by omega) (by omega)

set_option maxRecDepth 100000 in
set_option maxHeartbeats 1000000 in
theorem lw_c2 {w : sg_W} {Q : sg_O → sg_H → Prop} {h : sg_H} (g : sg_G w) (nc : jk_C w) (hJ : jz w) {d mc ms : Nat} (hd : 30 ≤ d) {B M O S j k n : Nat} {xs : List Int} (hI : jk_I w B M O S xs h) (hj : 6 * j + 6 ≤ xs.length) (hl : xs.length ≤ 3072) (hk : k + 1030 ≤ mc) (hn : n + (48 + 16) ≤ ms) (K : ∀ (h' : sg_H) (k' n' : Nat), jk_I w B M O S xs h' → k' ≤ k + 1030 → n' ≤ n + (48 + 16) → sg_R w mi_L_law d mc ms Q 2472 [(0, sg_r S), (1, sg_r B), (2, sg_r M), (3, sg_r O), (4, sg_i (6 * (j : Int)))] [] h' k' n') : sg_R w mi_L_law d mc ms Q 408 [(0, sg_r S), (1, sg_r B), (2, sg_r M), (3, sg_r O), (4, sg_i (6 * (j : Int)))] [] h k n := by
  refine sg_aload_n (pc := 408) (j := 1) dL_law_408 rfl rfl ?_
  refine sg_aload_n (pc := 409) (j := 0) dL_law_409 rfl rfl ?_
  refine sg_iload (pc := 410) dL_law_410 rfl ?_
  refine sg_iconst (pc := 412) (z := 1) dL_law_412 (by decide) ?_
  first | refine sg_iaddB (pc := 413) dL_law_413 (by omega) (by omega) ?_ | refine sg_iadd (pc := 413) dL_law_413 ?_
  refine sg_iald (pc := 414) dL_law_414 hI.2.2.2.2.2.2.2.2.2 rfl (by omega) (jk_x (by omega) (by omega)) ?_
  refine sg_aload_n (pc := 415) (j := 0) dL_law_415 rfl rfl ?_
  refine sg_iload (pc := 416) dL_law_416 rfl ?_
  refine sg_iconst (pc := 418) (z := 2) dL_law_418 (by decide) ?_
  first | refine sg_iaddB (pc := 419) dL_law_419 (by omega) (by omega) ?_ | refine sg_iadd (pc := 419) dL_law_419 ?_
  refine sg_iald (pc := 420) dL_law_420 hI.2.2.2.2.2.2.2.2.2 rfl (by omega) (jk_x (by omega) (by omega)) ?_
  refine sg_aload_n (pc := 421) (j := 3) dL_law_421 rfl rfl ?_
  refine st_cS4 (pc := 422) (d' := d - 1) (mc' := 8) (ms' := 48) g dL_law_422 cb_L_copy cw_L_copy ml_L_200 ms_L_copy (Nat.le_of_ble_eq_true rfl) (by first | exact jl_d0 hd rfl | omega) (by first | exact Nat.le_of_ble_eq_true rfl | omega) (by first | exact Nat.le_of_ble_eq_true rfl | omega) ?_
  refine s_L_copy g nc (by omega) hI (fun v1 h1 I1 X1 => sg_K1 ?_)
  refine sg_istore (pc := 425) dL_law_425 (by decide) ?_
  refine sg_aload_n (pc := 427) (j := 2) dL_law_427 rfl rfl ?_
  refine sg_aload_n (pc := 428) (j := 0) dL_law_428 rfl rfl ?_
  refine sg_iload (pc := 429) dL_law_429 rfl ?_
  refine sg_iconst (pc := 431) (z := 1) dL_law_431 (by decide) ?_
  first | refine sg_iaddB (pc := 432) dL_law_432 (by omega) (by omega) ?_ | refine sg_iadd (pc := 432) dL_law_432 ?_
  refine sg_iald (pc := 433) dL_law_433 I1.2.2.2.2.2.2.2.2.2 rfl (by omega) (jk_x (by omega) (by omega)) ?_
  refine sg_aload_n (pc := 434) (j := 0) dL_law_434 rfl rfl ?_
  refine sg_iload (pc := 435) dL_law_435 rfl ?_
  refine sg_iconst (pc := 437) (z := 2) dL_law_437 (by decide) ?_
  first | refine sg_iaddB (pc := 438) dL_law_438 (by omega) (by omega) ?_ | refine sg_iadd (pc := 438) dL_law_438 ?_
  refine sg_iald (pc := 439) dL_law_439 I1.2.2.2.2.2.2.2.2.2 rfl (by omega) (jk_x (by omega) (by omega)) ?_
  refine st_as (fun H r => jk_tgR (B := B) r) ?_
  have m2 := jk_Im I1
  refine sg_cE2 (pc := 440) (d' := d - 1) (mc' := 2) (ms' := 16) 8 g dL_law_440 cb_X7_copy ml_L_202 mn_X7_copy rfl mv_X7_copy (Nat.le_of_ble_eq_true rfl) (md_oc m2) (Nat.le_of_ble_eq_true rfl) (by first | exact jl_d0 hd rfl | omega) (by first | exact Nat.le_of_ble_eq_true rfl | omega) (by first | exact Nat.le_of_ble_eq_true rfl | omega) ?_
  refine s_X7_copy g (by first | exact jl_d1 hd rfl | omega) m2 (fun v2 h2  y2 => sg_K1 ?_)
  refine st_as (fun H r => jk_unR I1.1 r) ?_
  have I2 := jk_IM I1 y2
  refine sg_istore (pc := 443) dL_law_443 (by decide) ?_
  refine sg_goto (pc := 445) (tgt := 2472) dL_law_445 (by decide) ?_
  refine sg_lsub (lv' := [(0, _), (1, _), (2, _), (3, _), (4, _)]) ⟨rfl, rfl, rfl, rfl, rfl, trivial⟩ ?_
  exact K _ _ _ I2 (by omega) (by omega)

set_option maxRecDepth 100000 in
set_option maxHeartbeats 1000000 in
theorem lw_c3 {w : sg_W} {Q : sg_O → sg_H → Prop} {h : sg_H} (g : sg_G w) (nc : jk_C w) (hJ : jz w) {d mc ms : Nat} (hd : 30 ≤ d) {B M O S j k n : Nat} {xs : List Int} (hI : jk_I w B M O S xs h) (hj : 6 * j + 6 ≤ xs.length) (hl : xs.length ≤ 3072) (hk : k + 1030 ≤ mc) (hn : n + (48 + 56) ≤ ms) (K : ∀ (h' : sg_H) (k' n' : Nat), jk_I w B M O S xs h' → k' ≤ k + 1030 → n' ≤ n + (48 + 56) → sg_R w mi_L_law d mc ms Q 2472 [(0, sg_r S), (1, sg_r B), (2, sg_r M), (3, sg_r O), (4, sg_i (6 * (j : Int)))] [] h' k' n') : sg_R w mi_L_law d mc ms Q 448 [(0, sg_r S), (1, sg_r B), (2, sg_r M), (3, sg_r O), (4, sg_i (6 * (j : Int)))] [] h k n := by
  refine sg_aload_n (pc := 448) (j := 1) dL_law_448 rfl rfl ?_
  refine sg_aload_n (pc := 449) (j := 0) dL_law_449 rfl rfl ?_
  refine sg_iload (pc := 450) dL_law_450 rfl ?_
  refine sg_iconst (pc := 452) (z := 1) dL_law_452 (by decide) ?_
  first | refine sg_iaddB (pc := 453) dL_law_453 (by omega) (by omega) ?_ | refine sg_iadd (pc := 453) dL_law_453 ?_
  refine sg_iald (pc := 454) dL_law_454 hI.2.2.2.2.2.2.2.2.2 rfl (by omega) (jk_x (by omega) (by omega)) ?_
  refine sg_aload_n (pc := 455) (j := 3) dL_law_455 rfl rfl ?_
  refine st_cS3 (pc := 456) (d' := d - 1) (mc' := 8) (ms' := 48) g dL_law_456 cb_L_raise cw_L_raise ml_L_203 ms_L_raise (Nat.le_of_ble_eq_true rfl) (by first | exact jl_d0 hd rfl | omega) (by first | exact Nat.le_of_ble_eq_true rfl | omega) (by first | exact Nat.le_of_ble_eq_true rfl | omega) ?_
  refine s_L_raise g nc (by omega) hI (fun v1 h1 I1 X1 => sg_K1 ?_)
  refine sg_istore (pc := 459) dL_law_459 (by decide) ?_
  refine sg_aload_n (pc := 461) (j := 2) dL_law_461 rfl rfl ?_
  refine sg_aload_n (pc := 462) (j := 0) dL_law_462 rfl rfl ?_
  refine sg_iload (pc := 463) dL_law_463 rfl ?_
  refine sg_iconst (pc := 465) (z := 1) dL_law_465 (by decide) ?_
  first | refine sg_iaddB (pc := 466) dL_law_466 (by omega) (by omega) ?_ | refine sg_iadd (pc := 466) dL_law_466 ?_
  refine sg_iald (pc := 467) dL_law_467 I1.2.2.2.2.2.2.2.2.2 rfl (by omega) (jk_x (by omega) (by omega)) ?_
  refine st_as (fun H r => jk_tgR (B := B) r) ?_
  have m2 := jk_Im I1
  refine sg_cE1 (pc := 468) (d' := d - 1) (mc' := 3) (ms' := 56) 8 g dL_law_468 cb_X7_raise ml_L_206 mn_X7_raise rfl mv_X7_raise (Nat.le_of_ble_eq_true rfl) (md_oc m2) (Nat.le_of_ble_eq_true rfl) (by first | exact jl_d0 hd rfl | omega) (by first | exact Nat.le_of_ble_eq_true rfl | omega) (by first | exact Nat.le_of_ble_eq_true rfl | omega) ?_
  refine s_X7_raise g (by first | exact jl_d1 hd rfl | omega) m2 (fun v2 h2  y2 => sg_K1 ?_)
  refine st_as (fun H r => jk_unR I1.1 r) ?_
  have I2 := jk_IM I1 y2
  refine sg_istore (pc := 471) dL_law_471 (by decide) ?_
  refine sg_goto (pc := 473) (tgt := 2472) dL_law_473 (by decide) ?_
  refine sg_lsub (lv' := [(0, _), (1, _), (2, _), (3, _), (4, _)]) ⟨rfl, rfl, rfl, rfl, rfl, trivial⟩ ?_
  exact K _ _ _ I2 (by omega) (by omega)

set_option maxRecDepth 100000 in
set_option maxHeartbeats 1000000 in
theorem lw_c4 {w : sg_W} {Q : sg_O → sg_H → Prop} {h : sg_H} (g : sg_G w) (nc : jk_C w) (hJ : jz w) {d mc ms : Nat} (hd : 30 ≤ d) {B M O S j k n : Nat} {xs : List Int} (hI : jk_I w B M O S xs h) (hj : 6 * j + 6 ≤ xs.length) (hl : xs.length ≤ 3072) (hk : k + 1030 ≤ mc) (hn : n + (48 + 56) ≤ ms) (K : ∀ (h' : sg_H) (k' n' : Nat), jk_I w B M O S xs h' → k' ≤ k + 1030 → n' ≤ n + (48 + 56) → sg_R w mi_L_law d mc ms Q 2472 [(0, sg_r S), (1, sg_r B), (2, sg_r M), (3, sg_r O), (4, sg_i (6 * (j : Int)))] [] h' k' n') : sg_R w mi_L_law d mc ms Q 476 [(0, sg_r S), (1, sg_r B), (2, sg_r M), (3, sg_r O), (4, sg_i (6 * (j : Int)))] [] h k n := by
  refine sg_aload_n (pc := 476) (j := 1) dL_law_476 rfl rfl ?_
  refine sg_aload_n (pc := 477) (j := 0) dL_law_477 rfl rfl ?_
  refine sg_iload (pc := 478) dL_law_478 rfl ?_
  refine sg_iconst (pc := 480) (z := 1) dL_law_480 (by decide) ?_
  first | refine sg_iaddB (pc := 481) dL_law_481 (by omega) (by omega) ?_ | refine sg_iadd (pc := 481) dL_law_481 ?_
  refine sg_iald (pc := 482) dL_law_482 hI.2.2.2.2.2.2.2.2.2 rfl (by omega) (jk_x (by omega) (by omega)) ?_
  refine sg_aload_n (pc := 483) (j := 3) dL_law_483 rfl rfl ?_
  refine st_cS3 (pc := 484) (d' := d - 1) (mc' := 8) (ms' := 48) g dL_law_484 cb_L_sink cw_L_sink ml_L_207 ms_L_sink (Nat.le_of_ble_eq_true rfl) (by first | exact jl_d0 hd rfl | omega) (by first | exact Nat.le_of_ble_eq_true rfl | omega) (by first | exact Nat.le_of_ble_eq_true rfl | omega) ?_
  refine s_L_sink g nc (by omega) hI (fun v1 h1 I1 X1 => sg_K1 ?_)
  refine sg_istore (pc := 487) dL_law_487 (by decide) ?_
  refine sg_aload_n (pc := 489) (j := 2) dL_law_489 rfl rfl ?_
  refine sg_aload_n (pc := 490) (j := 0) dL_law_490 rfl rfl ?_
  refine sg_iload (pc := 491) dL_law_491 rfl ?_
  refine sg_iconst (pc := 493) (z := 1) dL_law_493 (by decide) ?_
  first | refine sg_iaddB (pc := 494) dL_law_494 (by omega) (by omega) ?_ | refine sg_iadd (pc := 494) dL_law_494 ?_
  refine sg_iald (pc := 495) dL_law_495 I1.2.2.2.2.2.2.2.2.2 rfl (by omega) (jk_x (by omega) (by omega)) ?_
  refine st_as (fun H r => jk_tgR (B := B) r) ?_
  have m2 := jk_Im I1
  refine sg_cE1 (pc := 496) (d' := d - 1) (mc' := 3) (ms' := 56) 8 g dL_law_496 cb_X7_sink ml_L_209 mn_X7_sink rfl mv_X7_sink (Nat.le_of_ble_eq_true rfl) (md_oc m2) (Nat.le_of_ble_eq_true rfl) (by first | exact jl_d0 hd rfl | omega) (by first | exact Nat.le_of_ble_eq_true rfl | omega) (by first | exact Nat.le_of_ble_eq_true rfl | omega) ?_
  refine s_X7_sink g (by first | exact jl_d1 hd rfl | omega) m2 (fun v2 h2  y2 => sg_K1 ?_)
  refine st_as (fun H r => jk_unR I1.1 r) ?_
  have I2 := jk_IM I1 y2
  refine sg_istore (pc := 499) dL_law_499 (by decide) ?_
  refine sg_goto (pc := 501) (tgt := 2472) dL_law_501 (by decide) ?_
  refine sg_lsub (lv' := [(0, _), (1, _), (2, _), (3, _), (4, _)]) ⟨rfl, rfl, rfl, rfl, rfl, trivial⟩ ?_
  exact K _ _ _ I2 (by omega) (by omega)

set_option maxRecDepth 100000 in
set_option maxHeartbeats 1000000 in
theorem lw_c5 {w : sg_W} {Q : sg_O → sg_H → Prop} {h : sg_H} (g : sg_G w) (nc : jk_C w) (hJ : jz w) {d mc ms : Nat} (hd : 30 ≤ d) {B M O S j k n : Nat} {xs : List Int} (hI : jk_I w B M O S xs h) (hj : 6 * j + 6 ≤ xs.length) (hl : xs.length ≤ 3072) (hk : k + 1030 ≤ mc) (hn : n + (48 + 1736) ≤ ms) (K : ∀ (h' : sg_H) (k' n' : Nat), jk_I w B M O S xs h' → k' ≤ k + 1030 → n' ≤ n + (48 + 1736) → sg_R w mi_L_law d mc ms Q 2472 [(0, sg_r S), (1, sg_r B), (2, sg_r M), (3, sg_r O), (4, sg_i (6 * (j : Int)))] [] h' k' n') : sg_R w mi_L_law d mc ms Q 504 [(0, sg_r S), (1, sg_r B), (2, sg_r M), (3, sg_r O), (4, sg_i (6 * (j : Int)))] [] h k n := by
  refine sg_aload_n (pc := 504) (j := 1) dL_law_504 rfl rfl ?_
  refine sg_aload_n (pc := 505) (j := 0) dL_law_505 rfl rfl ?_
  refine sg_iload (pc := 506) dL_law_506 rfl ?_
  refine sg_iconst (pc := 508) (z := 1) dL_law_508 (by decide) ?_
  first | refine sg_iaddB (pc := 509) dL_law_509 (by omega) (by omega) ?_ | refine sg_iadd (pc := 509) dL_law_509 ?_
  refine sg_iald (pc := 510) dL_law_510 hI.2.2.2.2.2.2.2.2.2 rfl (by omega) (jk_x (by omega) (by omega)) ?_
  refine sg_aload_n (pc := 511) (j := 0) dL_law_511 rfl rfl ?_
  refine sg_iload (pc := 512) dL_law_512 rfl ?_
  refine sg_iconst (pc := 514) (z := 2) dL_law_514 (by decide) ?_
  first | refine sg_iaddB (pc := 515) dL_law_515 (by omega) (by omega) ?_ | refine sg_iadd (pc := 515) dL_law_515 ?_
  refine sg_iald (pc := 516) dL_law_516 hI.2.2.2.2.2.2.2.2.2 rfl (by omega) (jk_x (by omega) (by omega)) ?_
  refine sg_aload_n (pc := 517) (j := 0) dL_law_517 rfl rfl ?_
  refine sg_iload (pc := 518) dL_law_518 rfl ?_
  refine sg_iconst (pc := 520) (z := 3) dL_law_520 (by decide) ?_
  first | refine sg_iaddB (pc := 521) dL_law_521 (by omega) (by omega) ?_ | refine sg_iadd (pc := 521) dL_law_521 ?_
  refine sg_iald (pc := 522) dL_law_522 hI.2.2.2.2.2.2.2.2.2 rfl (by omega) (jk_x (by omega) (by omega)) ?_
  refine sg_if_eq (pc := 523) (tgt := 530) dL_law_523 (by decide) (fun c523 => ?_) (fun c523 => ?_)
  · refine sg_iconst (pc := 530) (z := 0) dL_law_530 (by decide) ?_
    refine sg_aload_n (pc := 531) (j := 3) dL_law_531 rfl rfl ?_
    refine st_cS5 (pc := 532) (d' := d - 1) (mc' := 8) (ms' := 48) g dL_law_532 cb_L_sieve cw_L_sieve ml_L_210 ms_L_sieve (Nat.le_of_ble_eq_true rfl) (by first | exact jl_d0 hd rfl | omega) (by first | exact Nat.le_of_ble_eq_true rfl | omega) (by first | exact Nat.le_of_ble_eq_true rfl | omega) ?_
    refine s_L_sieve g nc (by omega) hI (fun v1 h1 I1 X1 => sg_K1 ?_)
    refine sg_istore (pc := 535) dL_law_535 (by decide) ?_
    refine sg_aload_n (pc := 537) (j := 2) dL_law_537 rfl rfl ?_
    refine sg_aload_n (pc := 538) (j := 0) dL_law_538 rfl rfl ?_
    refine sg_iload (pc := 539) dL_law_539 rfl ?_
    refine sg_iconst (pc := 541) (z := 1) dL_law_541 (by decide) ?_
    first | refine sg_iaddB (pc := 542) dL_law_542 (by omega) (by omega) ?_ | refine sg_iadd (pc := 542) dL_law_542 ?_
    refine sg_iald (pc := 543) dL_law_543 I1.2.2.2.2.2.2.2.2.2 rfl (by omega) (jk_x (by omega) (by omega)) ?_
    refine sg_aload_n (pc := 544) (j := 0) dL_law_544 rfl rfl ?_
    refine sg_iload (pc := 545) dL_law_545 rfl ?_
    refine sg_iconst (pc := 547) (z := 2) dL_law_547 (by decide) ?_
    first | refine sg_iaddB (pc := 548) dL_law_548 (by omega) (by omega) ?_ | refine sg_iadd (pc := 548) dL_law_548 ?_
    refine sg_iald (pc := 549) dL_law_549 I1.2.2.2.2.2.2.2.2.2 rfl (by omega) (jk_x (by omega) (by omega)) ?_
    refine sg_aload_n (pc := 550) (j := 0) dL_law_550 rfl rfl ?_
    refine sg_iload (pc := 551) dL_law_551 rfl ?_
    refine sg_iconst (pc := 553) (z := 3) dL_law_553 (by decide) ?_
    first | refine sg_iaddB (pc := 554) dL_law_554 (by omega) (by omega) ?_ | refine sg_iadd (pc := 554) dL_law_554 ?_
    refine sg_iald (pc := 555) dL_law_555 I1.2.2.2.2.2.2.2.2.2 rfl (by omega) (jk_x (by omega) (by omega)) ?_
    refine sg_if_eq (pc := 556) (tgt := 563) dL_law_556 (by decide) (fun c556 => ?_) (fun c556 => ?_)
    · refine sg_iconst (pc := 563) (z := 0) dL_law_563 (by decide) ?_
      refine st_as (fun H r => jk_tgR (B := B) r) ?_
      have m2 := jk_Im I1
      refine sg_cE3 (pc := 564) (d' := d - 1) (mc' := 84) (ms' := 1736) 8 g dL_law_564 cb_X7_sieve ml_L_213 mn_X7_sieve rfl mv_X7_sieve (Nat.le_of_ble_eq_true rfl) (md_oc m2) (Nat.le_of_ble_eq_true rfl) (by first | exact jl_d0 hd rfl | omega) (by first | exact Nat.le_of_ble_eq_true rfl | omega) (by first | exact Nat.le_of_ble_eq_true rfl | omega) ?_
      refine s_X7_sieve g (by first | exact jl_d1 hd rfl | omega) m2 (fun v2 h2  y2 => sg_K1 ?_)
      refine st_as (fun H r => jk_unR I1.1 r) ?_
      have I2 := jk_IM I1 y2
      refine sg_istore (pc := 567) dL_law_567 (by decide) ?_
      refine sg_goto (pc := 569) (tgt := 2472) dL_law_569 (by decide) ?_
      refine sg_lsub (lv' := [(0, _), (1, _), (2, _), (3, _), (4, _)]) ⟨rfl, rfl, rfl, rfl, rfl, trivial⟩ ?_
      exact K _ _ _ I2 (by omega) (by omega)
    · refine sg_iconst (pc := 559) (z := 1) dL_law_559 (by decide) ?_
      refine sg_goto (pc := 560) (tgt := 564) dL_law_560 (by decide) ?_
      refine st_as (fun H r => jk_tgR (B := B) r) ?_
      have m3 := jk_Im I1
      refine sg_cE3 (pc := 564) (d' := d - 1) (mc' := 84) (ms' := 1736) 8 g dL_law_564 cb_X7_sieve ml_L_213 mn_X7_sieve rfl mv_X7_sieve (Nat.le_of_ble_eq_true rfl) (md_oc m3) (Nat.le_of_ble_eq_true rfl) (by first | exact jl_d0 hd rfl | omega) (by first | exact Nat.le_of_ble_eq_true rfl | omega) (by first | exact Nat.le_of_ble_eq_true rfl | omega) ?_
      refine s_X7_sieve g (by first | exact jl_d1 hd rfl | omega) m3 (fun v3 h3  y3 => sg_K1 ?_)
      refine st_as (fun H r => jk_unR I1.1 r) ?_
      have I3 := jk_IM I1 y3
      refine sg_istore (pc := 567) dL_law_567 (by decide) ?_
      refine sg_goto (pc := 569) (tgt := 2472) dL_law_569 (by decide) ?_
      refine sg_lsub (lv' := [(0, _), (1, _), (2, _), (3, _), (4, _)]) ⟨rfl, rfl, rfl, rfl, rfl, trivial⟩ ?_
      exact K _ _ _ I3 (by omega) (by omega)
  · refine sg_iconst (pc := 526) (z := 1) dL_law_526 (by decide) ?_
    refine sg_goto (pc := 527) (tgt := 531) dL_law_527 (by decide) ?_
    refine sg_aload_n (pc := 531) (j := 3) dL_law_531 rfl rfl ?_
    refine st_cS5 (pc := 532) (d' := d - 1) (mc' := 8) (ms' := 48) g dL_law_532 cb_L_sieve cw_L_sieve ml_L_210 ms_L_sieve (Nat.le_of_ble_eq_true rfl) (by first | exact jl_d0 hd rfl | omega) (by first | exact Nat.le_of_ble_eq_true rfl | omega) (by first | exact Nat.le_of_ble_eq_true rfl | omega) ?_
    refine s_L_sieve g nc (by omega) hI (fun v4 h4 I4 X4 => sg_K1 ?_)
    refine sg_istore (pc := 535) dL_law_535 (by decide) ?_
    refine sg_aload_n (pc := 537) (j := 2) dL_law_537 rfl rfl ?_
    refine sg_aload_n (pc := 538) (j := 0) dL_law_538 rfl rfl ?_
    refine sg_iload (pc := 539) dL_law_539 rfl ?_
    refine sg_iconst (pc := 541) (z := 1) dL_law_541 (by decide) ?_
    first | refine sg_iaddB (pc := 542) dL_law_542 (by omega) (by omega) ?_ | refine sg_iadd (pc := 542) dL_law_542 ?_
    refine sg_iald (pc := 543) dL_law_543 I4.2.2.2.2.2.2.2.2.2 rfl (by omega) (jk_x (by omega) (by omega)) ?_
    refine sg_aload_n (pc := 544) (j := 0) dL_law_544 rfl rfl ?_
    refine sg_iload (pc := 545) dL_law_545 rfl ?_
    refine sg_iconst (pc := 547) (z := 2) dL_law_547 (by decide) ?_
    first | refine sg_iaddB (pc := 548) dL_law_548 (by omega) (by omega) ?_ | refine sg_iadd (pc := 548) dL_law_548 ?_
    refine sg_iald (pc := 549) dL_law_549 I4.2.2.2.2.2.2.2.2.2 rfl (by omega) (jk_x (by omega) (by omega)) ?_
    refine sg_aload_n (pc := 550) (j := 0) dL_law_550 rfl rfl ?_
    refine sg_iload (pc := 551) dL_law_551 rfl ?_
    refine sg_iconst (pc := 553) (z := 3) dL_law_553 (by decide) ?_
    first | refine sg_iaddB (pc := 554) dL_law_554 (by omega) (by omega) ?_ | refine sg_iadd (pc := 554) dL_law_554 ?_
    refine sg_iald (pc := 555) dL_law_555 I4.2.2.2.2.2.2.2.2.2 rfl (by omega) (jk_x (by omega) (by omega)) ?_
    refine sg_if_eq (pc := 556) (tgt := 563) dL_law_556 (by decide) (fun c556 => ?_) (fun c556 => ?_)
    · refine sg_iconst (pc := 563) (z := 0) dL_law_563 (by decide) ?_
      refine st_as (fun H r => jk_tgR (B := B) r) ?_
      have m5 := jk_Im I4
      refine sg_cE3 (pc := 564) (d' := d - 1) (mc' := 84) (ms' := 1736) 8 g dL_law_564 cb_X7_sieve ml_L_213 mn_X7_sieve rfl mv_X7_sieve (Nat.le_of_ble_eq_true rfl) (md_oc m5) (Nat.le_of_ble_eq_true rfl) (by first | exact jl_d0 hd rfl | omega) (by first | exact Nat.le_of_ble_eq_true rfl | omega) (by first | exact Nat.le_of_ble_eq_true rfl | omega) ?_
      refine s_X7_sieve g (by first | exact jl_d1 hd rfl | omega) m5 (fun v5 h5  y5 => sg_K1 ?_)
      refine st_as (fun H r => jk_unR I4.1 r) ?_
      have I5 := jk_IM I4 y5
      refine sg_istore (pc := 567) dL_law_567 (by decide) ?_
      refine sg_goto (pc := 569) (tgt := 2472) dL_law_569 (by decide) ?_
      refine sg_lsub (lv' := [(0, _), (1, _), (2, _), (3, _), (4, _)]) ⟨rfl, rfl, rfl, rfl, rfl, trivial⟩ ?_
      exact K _ _ _ I5 (by omega) (by omega)
    · refine sg_iconst (pc := 559) (z := 1) dL_law_559 (by decide) ?_
      refine sg_goto (pc := 560) (tgt := 564) dL_law_560 (by decide) ?_
      refine st_as (fun H r => jk_tgR (B := B) r) ?_
      have m6 := jk_Im I4
      refine sg_cE3 (pc := 564) (d' := d - 1) (mc' := 84) (ms' := 1736) 8 g dL_law_564 cb_X7_sieve ml_L_213 mn_X7_sieve rfl mv_X7_sieve (Nat.le_of_ble_eq_true rfl) (md_oc m6) (Nat.le_of_ble_eq_true rfl) (by first | exact jl_d0 hd rfl | omega) (by first | exact Nat.le_of_ble_eq_true rfl | omega) (by first | exact Nat.le_of_ble_eq_true rfl | omega) ?_
      refine s_X7_sieve g (by first | exact jl_d1 hd rfl | omega) m6 (fun v6 h6  y6 => sg_K1 ?_)
      refine st_as (fun H r => jk_unR I4.1 r) ?_
      have I6 := jk_IM I4 y6
      refine sg_istore (pc := 567) dL_law_567 (by decide) ?_
      refine sg_goto (pc := 569) (tgt := 2472) dL_law_569 (by decide) ?_
      refine sg_lsub (lv' := [(0, _), (1, _), (2, _), (3, _), (4, _)]) ⟨rfl, rfl, rfl, rfl, rfl, trivial⟩ ?_
      exact K _ _ _ I6 (by omega) (by omega)

set_option maxRecDepth 100000 in
set_option maxHeartbeats 1000000 in
theorem lw_c6 {w : sg_W} {Q : sg_O → sg_H → Prop} {h : sg_H} (g : sg_G w) (nc : jk_C w) (hJ : jz w) {d mc ms : Nat} (hd : 30 ≤ d) {B M O S j k n : Nat} {xs : List Int} (hI : jk_I w B M O S xs h) (hj : 6 * j + 6 ≤ xs.length) (hl : xs.length ≤ 3072) (hk : k + 1030 ≤ mc) (hn : n + (48 + 56) ≤ ms) (K : ∀ (h' : sg_H) (k' n' : Nat), jk_I w B M O S xs h' → k' ≤ k + 1030 → n' ≤ n + (48 + 56) → sg_R w mi_L_law d mc ms Q 2472 [(0, sg_r S), (1, sg_r B), (2, sg_r M), (3, sg_r O), (4, sg_i (6 * (j : Int)))] [] h' k' n') : sg_R w mi_L_law d mc ms Q 572 [(0, sg_r S), (1, sg_r B), (2, sg_r M), (3, sg_r O), (4, sg_i (6 * (j : Int)))] [] h k n := by
  refine sg_aload_n (pc := 572) (j := 1) dL_law_572 rfl rfl ?_
  refine sg_aload_n (pc := 573) (j := 0) dL_law_573 rfl rfl ?_
  refine sg_iload (pc := 574) dL_law_574 rfl ?_
  refine sg_iconst (pc := 576) (z := 1) dL_law_576 (by decide) ?_
  first | refine sg_iaddB (pc := 577) dL_law_577 (by omega) (by omega) ?_ | refine sg_iadd (pc := 577) dL_law_577 ?_
  refine sg_iald (pc := 578) dL_law_578 hI.2.2.2.2.2.2.2.2.2 rfl (by omega) (jk_x (by omega) (by omega)) ?_
  refine sg_aload_n (pc := 579) (j := 3) dL_law_579 rfl rfl ?_
  refine st_cS3 (pc := 580) (d' := d - 1) (mc' := 8) (ms' := 48) g dL_law_580 cb_L_strip cw_L_strip ml_L_214 ms_L_strip (Nat.le_of_ble_eq_true rfl) (by first | exact jl_d0 hd rfl | omega) (by first | exact Nat.le_of_ble_eq_true rfl | omega) (by first | exact Nat.le_of_ble_eq_true rfl | omega) ?_
  refine s_L_strip g nc (by omega) hI (fun v1 h1 I1 X1 => sg_K1 ?_)
  refine sg_istore (pc := 583) dL_law_583 (by decide) ?_
  refine sg_aload_n (pc := 585) (j := 2) dL_law_585 rfl rfl ?_
  refine sg_aload_n (pc := 586) (j := 0) dL_law_586 rfl rfl ?_
  refine sg_iload (pc := 587) dL_law_587 rfl ?_
  refine sg_iconst (pc := 589) (z := 1) dL_law_589 (by decide) ?_
  first | refine sg_iaddB (pc := 590) dL_law_590 (by omega) (by omega) ?_ | refine sg_iadd (pc := 590) dL_law_590 ?_
  refine sg_iald (pc := 591) dL_law_591 I1.2.2.2.2.2.2.2.2.2 rfl (by omega) (jk_x (by omega) (by omega)) ?_
  refine st_as (fun H r => jk_tgR (B := B) r) ?_
  have m2 := jk_Im I1
  refine sg_cE1 (pc := 592) (d' := d - 1) (mc' := 3) (ms' := 56) 8 g dL_law_592 cb_X7_strip ml_L_216 mn_X7_strip rfl mv_X7_strip (Nat.le_of_ble_eq_true rfl) (md_oc m2) (Nat.le_of_ble_eq_true rfl) (by first | exact jl_d0 hd rfl | omega) (by first | exact Nat.le_of_ble_eq_true rfl | omega) (by first | exact Nat.le_of_ble_eq_true rfl | omega) ?_
  refine s_X7_strip g (by first | exact jl_d1 hd rfl | omega) m2 (fun v2 h2  y2 => sg_K1 ?_)
  refine st_as (fun H r => jk_unR I1.1 r) ?_
  have I2 := jk_IM I1 y2
  refine sg_istore (pc := 595) dL_law_595 (by decide) ?_
  refine sg_goto (pc := 597) (tgt := 2472) dL_law_597 (by decide) ?_
  refine sg_lsub (lv' := [(0, _), (1, _), (2, _), (3, _), (4, _)]) ⟨rfl, rfl, rfl, rfl, rfl, trivial⟩ ?_
  exact K _ _ _ I2 (by omega) (by omega)

set_option maxRecDepth 100000 in
set_option maxHeartbeats 1000000 in
theorem lw_c7 {w : sg_W} {Q : sg_O → sg_H → Prop} {h : sg_H} (g : sg_G w) (nc : jk_C w) (hJ : jz w) {d mc ms : Nat} (hd : 30 ≤ d) {B M O S j k n : Nat} {xs : List Int} (hI : jk_I w B M O S xs h) (hj : 6 * j + 6 ≤ xs.length) (hl : xs.length ≤ 3072) (hk : k + 1030 ≤ mc) (hn : n + (48 + 56) ≤ ms) (K : ∀ (h' : sg_H) (k' n' : Nat), jk_I w B M O S xs h' → k' ≤ k + 1030 → n' ≤ n + (48 + 56) → sg_R w mi_L_law d mc ms Q 2472 [(0, sg_r S), (1, sg_r B), (2, sg_r M), (3, sg_r O), (4, sg_i (6 * (j : Int)))] [] h' k' n') : sg_R w mi_L_law d mc ms Q 600 [(0, sg_r S), (1, sg_r B), (2, sg_r M), (3, sg_r O), (4, sg_i (6 * (j : Int)))] [] h k n := by
  refine sg_aload_n (pc := 600) (j := 1) dL_law_600 rfl rfl ?_
  refine sg_aload_n (pc := 601) (j := 0) dL_law_601 rfl rfl ?_
  refine sg_iload (pc := 602) dL_law_602 rfl ?_
  refine sg_iconst (pc := 604) (z := 1) dL_law_604 (by decide) ?_
  first | refine sg_iaddB (pc := 605) dL_law_605 (by omega) (by omega) ?_ | refine sg_iadd (pc := 605) dL_law_605 ?_
  refine sg_iald (pc := 606) dL_law_606 hI.2.2.2.2.2.2.2.2.2 rfl (by omega) (jk_x (by omega) (by omega)) ?_
  refine sg_aload_n (pc := 607) (j := 3) dL_law_607 rfl rfl ?_
  refine st_cS3 (pc := 608) (d' := d - 1) (mc' := 8) (ms' := 48) g dL_law_608 cb_L_turn cw_L_turn ml_L_217 ms_L_turn (Nat.le_of_ble_eq_true rfl) (by first | exact jl_d0 hd rfl | omega) (by first | exact Nat.le_of_ble_eq_true rfl | omega) (by first | exact Nat.le_of_ble_eq_true rfl | omega) ?_
  refine s_L_turn g nc (by omega) hI (fun v1 h1 I1 X1 => sg_K1 ?_)
  refine sg_istore (pc := 611) dL_law_611 (by decide) ?_
  refine sg_aload_n (pc := 613) (j := 2) dL_law_613 rfl rfl ?_
  refine sg_aload_n (pc := 614) (j := 0) dL_law_614 rfl rfl ?_
  refine sg_iload (pc := 615) dL_law_615 rfl ?_
  refine sg_iconst (pc := 617) (z := 1) dL_law_617 (by decide) ?_
  first | refine sg_iaddB (pc := 618) dL_law_618 (by omega) (by omega) ?_ | refine sg_iadd (pc := 618) dL_law_618 ?_
  refine sg_iald (pc := 619) dL_law_619 I1.2.2.2.2.2.2.2.2.2 rfl (by omega) (jk_x (by omega) (by omega)) ?_
  refine st_as (fun H r => jk_tgR (B := B) r) ?_
  have m2 := jk_Im I1
  refine sg_cE1 (pc := 620) (d' := d - 1) (mc' := 3) (ms' := 56) 8 g dL_law_620 cb_X7_turn ml_L_219 mn_X7_turn rfl mv_X7_turn (Nat.le_of_ble_eq_true rfl) (md_oc m2) (Nat.le_of_ble_eq_true rfl) (by first | exact jl_d0 hd rfl | omega) (by first | exact Nat.le_of_ble_eq_true rfl | omega) (by first | exact Nat.le_of_ble_eq_true rfl | omega) ?_
  refine s_X7_turn g (by first | exact jl_d1 hd rfl | omega) m2 (fun v2 h2  y2 => sg_K1 ?_)
  refine st_as (fun H r => jk_unR I1.1 r) ?_
  have I2 := jk_IM I1 y2
  refine sg_istore (pc := 623) dL_law_623 (by decide) ?_
  refine sg_goto (pc := 625) (tgt := 2472) dL_law_625 (by decide) ?_
  refine sg_lsub (lv' := [(0, _), (1, _), (2, _), (3, _), (4, _)]) ⟨rfl, rfl, rfl, rfl, rfl, trivial⟩ ?_
  exact K _ _ _ I2 (by omega) (by omega)

set_option maxRecDepth 100000 in
set_option maxHeartbeats 1000000 in
theorem lw_c8 {w : sg_W} {Q : sg_O → sg_H → Prop} {h : sg_H} (g : sg_G w) (nc : jk_C w) (hJ : jz w) {d mc ms : Nat} (hd : 30 ≤ d) {B M O S j k n : Nat} {xs : List Int} (hI : jk_I w B M O S xs h) (hj : 6 * j + 6 ≤ xs.length) (hl : xs.length ≤ 3072) (hk : k + 1030 ≤ mc) (hn : n + (48 + 560) ≤ ms) (K : ∀ (h' : sg_H) (k' n' : Nat), jk_I w B M O S xs h' → k' ≤ k + 1030 → n' ≤ n + (48 + 560) → sg_R w mi_L_law d mc ms Q 2472 [(0, sg_r S), (1, sg_r B), (2, sg_r M), (3, sg_r O), (4, sg_i (6 * (j : Int)))] [] h' k' n') : sg_R w mi_L_law d mc ms Q 628 [(0, sg_r S), (1, sg_r B), (2, sg_r M), (3, sg_r O), (4, sg_i (6 * (j : Int)))] [] h k n := by
  refine sg_aload_n (pc := 628) (j := 1) dL_law_628 rfl rfl ?_
  refine sg_aload_n (pc := 629) (j := 0) dL_law_629 rfl rfl ?_
  refine sg_iload (pc := 630) dL_law_630 rfl ?_
  refine sg_iconst (pc := 632) (z := 1) dL_law_632 (by decide) ?_
  first | refine sg_iaddB (pc := 633) dL_law_633 (by omega) (by omega) ?_ | refine sg_iadd (pc := 633) dL_law_633 ?_
  refine sg_iald (pc := 634) dL_law_634 hI.2.2.2.2.2.2.2.2.2 rfl (by omega) (jk_x (by omega) (by omega)) ?_
  refine sg_aload_n (pc := 635) (j := 0) dL_law_635 rfl rfl ?_
  refine sg_iload (pc := 636) dL_law_636 rfl ?_
  refine sg_iconst (pc := 638) (z := 2) dL_law_638 (by decide) ?_
  first | refine sg_iaddB (pc := 639) dL_law_639 (by omega) (by omega) ?_ | refine sg_iadd (pc := 639) dL_law_639 ?_
  refine sg_iald (pc := 640) dL_law_640 hI.2.2.2.2.2.2.2.2.2 rfl (by omega) (jk_x (by omega) (by omega)) ?_
  refine sg_aload_n (pc := 641) (j := 0) dL_law_641 rfl rfl ?_
  refine sg_iload (pc := 642) dL_law_642 rfl ?_
  refine sg_iconst (pc := 644) (z := 3) dL_law_644 (by decide) ?_
  first | refine sg_iaddB (pc := 645) dL_law_645 (by omega) (by omega) ?_ | refine sg_iadd (pc := 645) dL_law_645 ?_
  refine sg_iald (pc := 646) dL_law_646 hI.2.2.2.2.2.2.2.2.2 rfl (by omega) (jk_x (by omega) (by omega)) ?_
  refine sg_aload_n (pc := 647) (j := 3) dL_law_647 rfl rfl ?_
  refine st_cS5 (pc := 648) (d' := d - 1) (mc' := 8) (ms' := 48) g dL_law_648 cb_L_write cw_L_write ml_L_220 ms_L_write (Nat.le_of_ble_eq_true rfl) (by first | exact jl_d0 hd rfl | omega) (by first | exact Nat.le_of_ble_eq_true rfl | omega) (by first | exact Nat.le_of_ble_eq_true rfl | omega) ?_
  refine s_L_write g nc (by omega) hI (fun v1 h1 I1 X1 => sg_K1 ?_)
  refine sg_istore (pc := 651) dL_law_651 (by decide) ?_
  refine sg_aload_n (pc := 653) (j := 2) dL_law_653 rfl rfl ?_
  refine sg_aload_n (pc := 654) (j := 0) dL_law_654 rfl rfl ?_
  refine sg_iload (pc := 655) dL_law_655 rfl ?_
  refine sg_iconst (pc := 657) (z := 1) dL_law_657 (by decide) ?_
  first | refine sg_iaddB (pc := 658) dL_law_658 (by omega) (by omega) ?_ | refine sg_iadd (pc := 658) dL_law_658 ?_
  refine sg_iald (pc := 659) dL_law_659 I1.2.2.2.2.2.2.2.2.2 rfl (by omega) (jk_x (by omega) (by omega)) ?_
  refine sg_aload_n (pc := 660) (j := 0) dL_law_660 rfl rfl ?_
  refine sg_iload (pc := 661) dL_law_661 rfl ?_
  refine sg_iconst (pc := 663) (z := 2) dL_law_663 (by decide) ?_
  first | refine sg_iaddB (pc := 664) dL_law_664 (by omega) (by omega) ?_ | refine sg_iadd (pc := 664) dL_law_664 ?_
  refine sg_iald (pc := 665) dL_law_665 I1.2.2.2.2.2.2.2.2.2 rfl (by omega) (jk_x (by omega) (by omega)) ?_
  refine sg_aload_n (pc := 666) (j := 0) dL_law_666 rfl rfl ?_
  refine sg_iload (pc := 667) dL_law_667 rfl ?_
  refine sg_iconst (pc := 669) (z := 3) dL_law_669 (by decide) ?_
  first | refine sg_iaddB (pc := 670) dL_law_670 (by omega) (by omega) ?_ | refine sg_iadd (pc := 670) dL_law_670 ?_
  refine sg_iald (pc := 671) dL_law_671 I1.2.2.2.2.2.2.2.2.2 rfl (by omega) (jk_x (by omega) (by omega)) ?_
  refine st_as (fun H r => jk_tgR (B := B) r) ?_
  have m2 := jk_Im I1
  refine sg_cE3 (pc := 672) (d' := d - 1) (mc' := 44) (ms' := 560) 8 g dL_law_672 cb_X7_write ml_L_223 mn_X7_write rfl mv_X7_write (Nat.le_of_ble_eq_true rfl) (md_oc m2) (Nat.le_of_ble_eq_true rfl) (by first | exact jl_d0 hd rfl | omega) (by first | exact Nat.le_of_ble_eq_true rfl | omega) (by first | exact Nat.le_of_ble_eq_true rfl | omega) ?_
  refine s_X7_write g (by first | exact jl_d1 hd rfl | omega) m2 (fun v2 h2  y2 => sg_K1 ?_)
  refine st_as (fun H r => jk_unR I1.1 r) ?_
  have I2 := jk_IM I1 y2
  refine sg_istore (pc := 675) dL_law_675 (by decide) ?_
  refine sg_goto (pc := 677) (tgt := 2472) dL_law_677 (by decide) ?_
  refine sg_lsub (lv' := [(0, _), (1, _), (2, _), (3, _), (4, _)]) ⟨rfl, rfl, rfl, rfl, rfl, trivial⟩ ?_
  exact K _ _ _ I2 (by omega) (by omega)

set_option maxRecDepth 100000 in
set_option maxHeartbeats 1000000 in
theorem lw_c9 {w : sg_W} {Q : sg_O → sg_H → Prop} {h : sg_H} (g : sg_G w) (nc : jk_C w) (hJ : jz w) {d mc ms : Nat} (hd : 30 ≤ d) {B M O S j k n : Nat} {xs : List Int} (hI : jk_I w B M O S xs h) (hj : 6 * j + 6 ≤ xs.length) (hl : xs.length ≤ 3072) (hk : k + 1030 ≤ mc) (hn : n + (48 + 56) ≤ ms) (K : ∀ (h' : sg_H) (k' n' : Nat), jk_I w B M O S xs h' → k' ≤ k + 1030 → n' ≤ n + (48 + 56) → sg_R w mi_L_law d mc ms Q 2472 [(0, sg_r S), (1, sg_r B), (2, sg_r M), (3, sg_r O), (4, sg_i (6 * (j : Int)))] [] h' k' n') : sg_R w mi_L_law d mc ms Q 680 [(0, sg_r S), (1, sg_r B), (2, sg_r M), (3, sg_r O), (4, sg_i (6 * (j : Int)))] [] h k n := by
  refine sg_aload_n (pc := 680) (j := 1) dL_law_680 rfl rfl ?_
  refine sg_aload_n (pc := 681) (j := 0) dL_law_681 rfl rfl ?_
  refine sg_iload (pc := 682) dL_law_682 rfl ?_
  refine sg_iconst (pc := 684) (z := 1) dL_law_684 (by decide) ?_
  first | refine sg_iaddB (pc := 685) dL_law_685 (by omega) (by omega) ?_ | refine sg_iadd (pc := 685) dL_law_685 ?_
  refine sg_iald (pc := 686) dL_law_686 hI.2.2.2.2.2.2.2.2.2 rfl (by omega) (jk_x (by omega) (by omega)) ?_
  refine sg_aload_n (pc := 687) (j := 0) dL_law_687 rfl rfl ?_
  refine sg_iload (pc := 688) dL_law_688 rfl ?_
  refine sg_iconst (pc := 690) (z := 2) dL_law_690 (by decide) ?_
  first | refine sg_iaddB (pc := 691) dL_law_691 (by omega) (by omega) ?_ | refine sg_iadd (pc := 691) dL_law_691 ?_
  refine sg_iald (pc := 692) dL_law_692 hI.2.2.2.2.2.2.2.2.2 rfl (by omega) (jk_x (by omega) (by omega)) ?_
  refine sg_aload_n (pc := 693) (j := 3) dL_law_693 rfl rfl ?_
  refine st_cS4 (pc := 694) (d' := d - 1) (mc' := 8) (ms' := 48) g dL_law_694 cb_L_spell cw_L_spell ml_L_224 ms_L_spell (Nat.le_of_ble_eq_true rfl) (by first | exact jl_d0 hd rfl | omega) (by first | exact Nat.le_of_ble_eq_true rfl | omega) (by first | exact Nat.le_of_ble_eq_true rfl | omega) ?_
  refine s_L_spell g nc (by omega) hI (fun v1 h1 I1 X1 => sg_K1 ?_)
  refine sg_istore (pc := 697) dL_law_697 (by decide) ?_
  refine sg_aload_n (pc := 699) (j := 2) dL_law_699 rfl rfl ?_
  refine sg_aload_n (pc := 700) (j := 0) dL_law_700 rfl rfl ?_
  refine sg_iload (pc := 701) dL_law_701 rfl ?_
  refine sg_iconst (pc := 703) (z := 1) dL_law_703 (by decide) ?_
  first | refine sg_iaddB (pc := 704) dL_law_704 (by omega) (by omega) ?_ | refine sg_iadd (pc := 704) dL_law_704 ?_
  refine sg_iald (pc := 705) dL_law_705 I1.2.2.2.2.2.2.2.2.2 rfl (by omega) (jk_x (by omega) (by omega)) ?_
  refine sg_aload_n (pc := 706) (j := 0) dL_law_706 rfl rfl ?_
  refine sg_iload (pc := 707) dL_law_707 rfl ?_
  refine sg_iconst (pc := 709) (z := 2) dL_law_709 (by decide) ?_
  first | refine sg_iaddB (pc := 710) dL_law_710 (by omega) (by omega) ?_ | refine sg_iadd (pc := 710) dL_law_710 ?_
  refine sg_iald (pc := 711) dL_law_711 I1.2.2.2.2.2.2.2.2.2 rfl (by omega) (jk_x (by omega) (by omega)) ?_
  refine st_as (fun H r => jk_tgR (B := B) r) ?_
  have m2 := jk_Im I1
  refine sg_cE2 (pc := 712) (d' := d - 1) (mc' := 3) (ms' := 56) 8 g dL_law_712 cb_X7_spell ml_L_226 mn_X7_spell rfl mv_X7_spell (Nat.le_of_ble_eq_true rfl) (md_oc m2) (Nat.le_of_ble_eq_true rfl) (by first | exact jl_d0 hd rfl | omega) (by first | exact Nat.le_of_ble_eq_true rfl | omega) (by first | exact Nat.le_of_ble_eq_true rfl | omega) ?_
  refine s_X7_spell g (by first | exact jl_d1 hd rfl | omega) m2 (fun v2 h2  y2 => sg_K1 ?_)
  refine st_as (fun H r => jk_unR I1.1 r) ?_
  have I2 := jk_IM I1 y2
  refine sg_istore (pc := 715) dL_law_715 (by decide) ?_
  refine sg_goto (pc := 717) (tgt := 2472) dL_law_717 (by decide) ?_
  refine sg_lsub (lv' := [(0, _), (1, _), (2, _), (3, _), (4, _)]) ⟨rfl, rfl, rfl, rfl, rfl, trivial⟩ ?_
  exact K _ _ _ I2 (by omega) (by omega)

set_option maxRecDepth 100000 in
set_option maxHeartbeats 1000000 in
theorem lw_c10 {w : sg_W} {Q : sg_O → sg_H → Prop} {h : sg_H} (g : sg_G w) (nc : jk_C w) (hJ : jz w) {d mc ms : Nat} (hd : 30 ≤ d) {B M O S j k n : Nat} {xs : List Int} (hI : jk_I w B M O S xs h) (hj : 6 * j + 6 ≤ xs.length) (hl : xs.length ≤ 3072) (hk : k + 1030 ≤ mc) (hn : n + (48 + 56) ≤ ms) (K : ∀ (h' : sg_H) (k' n' : Nat), jk_I w B M O S xs h' → k' ≤ k + 1030 → n' ≤ n + (48 + 56) → sg_R w mi_L_law d mc ms Q 2472 [(0, sg_r S), (1, sg_r B), (2, sg_r M), (3, sg_r O), (4, sg_i (6 * (j : Int)))] [] h' k' n') : sg_R w mi_L_law d mc ms Q 720 [(0, sg_r S), (1, sg_r B), (2, sg_r M), (3, sg_r O), (4, sg_i (6 * (j : Int)))] [] h k n := by
  refine sg_aload_n (pc := 720) (j := 1) dL_law_720 rfl rfl ?_
  refine sg_aload_n (pc := 721) (j := 0) dL_law_721 rfl rfl ?_
  refine sg_iload (pc := 722) dL_law_722 rfl ?_
  refine sg_iconst (pc := 724) (z := 1) dL_law_724 (by decide) ?_
  first | refine sg_iaddB (pc := 725) dL_law_725 (by omega) (by omega) ?_ | refine sg_iadd (pc := 725) dL_law_725 ?_
  refine sg_iald (pc := 726) dL_law_726 hI.2.2.2.2.2.2.2.2.2 rfl (by omega) (jk_x (by omega) (by omega)) ?_
  refine sg_aload_n (pc := 727) (j := 0) dL_law_727 rfl rfl ?_
  refine sg_iload (pc := 728) dL_law_728 rfl ?_
  refine sg_iconst (pc := 730) (z := 2) dL_law_730 (by decide) ?_
  first | refine sg_iaddB (pc := 731) dL_law_731 (by omega) (by omega) ?_ | refine sg_iadd (pc := 731) dL_law_731 ?_
  refine sg_iald (pc := 732) dL_law_732 hI.2.2.2.2.2.2.2.2.2 rfl (by omega) (jk_x (by omega) (by omega)) ?_
  refine sg_aload_n (pc := 733) (j := 3) dL_law_733 rfl rfl ?_
  refine st_cS4 (pc := 734) (d' := d - 1) (mc' := 8) (ms' := 48) g dL_law_734 cb_L_read cw_L_read ml_L_227 ms_L_read (Nat.le_of_ble_eq_true rfl) (by first | exact jl_d0 hd rfl | omega) (by first | exact Nat.le_of_ble_eq_true rfl | omega) (by first | exact Nat.le_of_ble_eq_true rfl | omega) ?_
  refine s_L_read g nc (by omega) hI (fun v1 h1 I1 X1 => sg_K1 ?_)
  refine sg_istore (pc := 737) dL_law_737 (by decide) ?_
  refine sg_aload_n (pc := 739) (j := 2) dL_law_739 rfl rfl ?_
  refine sg_aload_n (pc := 740) (j := 0) dL_law_740 rfl rfl ?_
  refine sg_iload (pc := 741) dL_law_741 rfl ?_
  refine sg_iconst (pc := 743) (z := 1) dL_law_743 (by decide) ?_
  first | refine sg_iaddB (pc := 744) dL_law_744 (by omega) (by omega) ?_ | refine sg_iadd (pc := 744) dL_law_744 ?_
  refine sg_iald (pc := 745) dL_law_745 I1.2.2.2.2.2.2.2.2.2 rfl (by omega) (jk_x (by omega) (by omega)) ?_
  refine sg_aload_n (pc := 746) (j := 0) dL_law_746 rfl rfl ?_
  refine sg_iload (pc := 747) dL_law_747 rfl ?_
  refine sg_iconst (pc := 749) (z := 2) dL_law_749 (by decide) ?_
  first | refine sg_iaddB (pc := 750) dL_law_750 (by omega) (by omega) ?_ | refine sg_iadd (pc := 750) dL_law_750 ?_
  refine sg_iald (pc := 751) dL_law_751 I1.2.2.2.2.2.2.2.2.2 rfl (by omega) (jk_x (by omega) (by omega)) ?_
  refine st_as (fun H r => jk_tgR (B := B) r) ?_
  have m2 := jk_Im I1
  refine sg_cE2 (pc := 752) (d' := d - 1) (mc' := 3) (ms' := 56) 8 g dL_law_752 cb_X7_read ml_L_229 mn_X7_read rfl mv_X7_read (Nat.le_of_ble_eq_true rfl) (md_oc m2) (Nat.le_of_ble_eq_true rfl) (by first | exact jl_d0 hd rfl | omega) (by first | exact Nat.le_of_ble_eq_true rfl | omega) (by first | exact Nat.le_of_ble_eq_true rfl | omega) ?_
  refine s_X7_read g (by first | exact jl_d1 hd rfl | omega) m2 (fun v2 h2  y2 => sg_K1 ?_)
  refine st_as (fun H r => jk_unR I1.1 r) ?_
  have I2 := jk_IM I1 y2
  refine sg_istore (pc := 755) dL_law_755 (by decide) ?_
  refine sg_goto (pc := 757) (tgt := 2472) dL_law_757 (by decide) ?_
  refine sg_lsub (lv' := [(0, _), (1, _), (2, _), (3, _), (4, _)]) ⟨rfl, rfl, rfl, rfl, rfl, trivial⟩ ?_
  exact K _ _ _ I2 (by omega) (by omega)

set_option maxRecDepth 100000 in
set_option maxHeartbeats 1000000 in
theorem lw_c11 {w : sg_W} {Q : sg_O → sg_H → Prop} {h : sg_H} (g : sg_G w) (nc : jk_C w) (hJ : jz w) {d mc ms : Nat} (hd : 30 ≤ d) {B M O S j k n : Nat} {xs : List Int} (hI : jk_I w B M O S xs h) (hj : 6 * j + 6 ≤ xs.length) (hl : xs.length ≤ 3072) (hk : k + 1030 ≤ mc) (hn : n + (48 + 82) ≤ ms) (K : ∀ (h' : sg_H) (k' n' : Nat), jk_I w B M O S xs h' → k' ≤ k + 1030 → n' ≤ n + (48 + 82) → sg_R w mi_L_law d mc ms Q 2472 [(0, sg_r S), (1, sg_r B), (2, sg_r M), (3, sg_r O), (4, sg_i (6 * (j : Int)))] [] h' k' n') : sg_R w mi_L_law d mc ms Q 760 [(0, sg_r S), (1, sg_r B), (2, sg_r M), (3, sg_r O), (4, sg_i (6 * (j : Int)))] [] h k n := by
  refine sg_aload_n (pc := 760) (j := 1) dL_law_760 rfl rfl ?_
  refine sg_aload_n (pc := 761) (j := 0) dL_law_761 rfl rfl ?_
  refine sg_iload (pc := 762) dL_law_762 rfl ?_
  refine sg_iconst (pc := 764) (z := 1) dL_law_764 (by decide) ?_
  first | refine sg_iaddB (pc := 765) dL_law_765 (by omega) (by omega) ?_ | refine sg_iadd (pc := 765) dL_law_765 ?_
  refine sg_iald (pc := 766) dL_law_766 hI.2.2.2.2.2.2.2.2.2 rfl (by omega) (jk_x (by omega) (by omega)) ?_
  refine sg_aload_n (pc := 767) (j := 0) dL_law_767 rfl rfl ?_
  refine sg_iload (pc := 768) dL_law_768 rfl ?_
  refine sg_iconst (pc := 770) (z := 2) dL_law_770 (by decide) ?_
  first | refine sg_iaddB (pc := 771) dL_law_771 (by omega) (by omega) ?_ | refine sg_iadd (pc := 771) dL_law_771 ?_
  refine sg_iald (pc := 772) dL_law_772 hI.2.2.2.2.2.2.2.2.2 rfl (by omega) (jk_x (by omega) (by omega)) ?_
  refine sg_aload_n (pc := 773) (j := 3) dL_law_773 rfl rfl ?_
  refine st_cS4 (pc := 774) (d' := d - 1) (mc' := 8) (ms' := 48) g dL_law_774 cb_L_send cw_L_send ml_L_230 ms_L_send (Nat.le_of_ble_eq_true rfl) (by first | exact jl_d0 hd rfl | omega) (by first | exact Nat.le_of_ble_eq_true rfl | omega) (by first | exact Nat.le_of_ble_eq_true rfl | omega) ?_
  refine s_L_send g nc (by omega) hI (fun v1 h1 I1 X1 => sg_K1 ?_)
  refine sg_istore (pc := 777) dL_law_777 (by decide) ?_
  refine sg_aload_n (pc := 779) (j := 2) dL_law_779 rfl rfl ?_
  refine sg_aload_n (pc := 780) (j := 0) dL_law_780 rfl rfl ?_
  refine sg_iload (pc := 781) dL_law_781 rfl ?_
  refine sg_iconst (pc := 783) (z := 1) dL_law_783 (by decide) ?_
  first | refine sg_iaddB (pc := 784) dL_law_784 (by omega) (by omega) ?_ | refine sg_iadd (pc := 784) dL_law_784 ?_
  refine sg_iald (pc := 785) dL_law_785 I1.2.2.2.2.2.2.2.2.2 rfl (by omega) (jk_x (by omega) (by omega)) ?_
  refine sg_aload_n (pc := 786) (j := 0) dL_law_786 rfl rfl ?_
  refine sg_iload (pc := 787) dL_law_787 rfl ?_
  refine sg_iconst (pc := 789) (z := 2) dL_law_789 (by decide) ?_
  first | refine sg_iaddB (pc := 790) dL_law_790 (by omega) (by omega) ?_ | refine sg_iadd (pc := 790) dL_law_790 ?_
  refine sg_iald (pc := 791) dL_law_791 I1.2.2.2.2.2.2.2.2.2 rfl (by omega) (jk_x (by omega) (by omega)) ?_
  refine st_as (fun H r => jk_tgR (B := B) r) ?_
  have m2 := jk_Im I1
  refine sg_cE2 (pc := 792) (d' := d - 1) (mc' := 4) (ms' := 82) 8 g dL_law_792 cb_X7_send ml_L_232 mn_X7_send rfl mv_X7_send (Nat.le_of_ble_eq_true rfl) (md_oc m2) (Nat.le_of_ble_eq_true rfl) (by first | exact jl_d0 hd rfl | omega) (by first | exact Nat.le_of_ble_eq_true rfl | omega) (by first | exact Nat.le_of_ble_eq_true rfl | omega) ?_
  refine s_X7_send g (by first | exact jl_d1 hd rfl | omega) m2 (fun v2 h2  y2 => sg_K1 ?_)
  refine st_as (fun H r => jk_unR I1.1 r) ?_
  have I2 := jk_IM I1 y2
  refine sg_istore (pc := 795) dL_law_795 (by decide) ?_
  refine sg_goto (pc := 797) (tgt := 2472) dL_law_797 (by decide) ?_
  refine sg_lsub (lv' := [(0, _), (1, _), (2, _), (3, _), (4, _)]) ⟨rfl, rfl, rfl, rfl, rfl, trivial⟩ ?_
  exact K _ _ _ I2 (by omega) (by omega)

set_option maxRecDepth 100000 in
set_option maxHeartbeats 1000000 in
theorem lw_c12 {w : sg_W} {Q : sg_O → sg_H → Prop} {h : sg_H} (g : sg_G w) (nc : jk_C w) (hJ : jz w) {d mc ms : Nat} (hd : 30 ≤ d) {B M O S j k n : Nat} {xs : List Int} (hI : jk_I w B M O S xs h) (hj : 6 * j + 6 ≤ xs.length) (hl : xs.length ≤ 3072) (hk : k + 1030 ≤ mc) (hn : n + (48 + 81) ≤ ms) (K : ∀ (h' : sg_H) (k' n' : Nat), jk_I w B M O S xs h' → k' ≤ k + 1030 → n' ≤ n + (48 + 81) → sg_R w mi_L_law d mc ms Q 2472 [(0, sg_r S), (1, sg_r B), (2, sg_r M), (3, sg_r O), (4, sg_i (6 * (j : Int)))] [] h' k' n') : sg_R w mi_L_law d mc ms Q 800 [(0, sg_r S), (1, sg_r B), (2, sg_r M), (3, sg_r O), (4, sg_i (6 * (j : Int)))] [] h k n := by
  refine sg_aload_n (pc := 800) (j := 1) dL_law_800 rfl rfl ?_
  refine sg_aload_n (pc := 801) (j := 0) dL_law_801 rfl rfl ?_
  refine sg_iload (pc := 802) dL_law_802 rfl ?_
  refine sg_iconst (pc := 804) (z := 1) dL_law_804 (by decide) ?_
  first | refine sg_iaddB (pc := 805) dL_law_805 (by omega) (by omega) ?_ | refine sg_iadd (pc := 805) dL_law_805 ?_
  refine sg_iald (pc := 806) dL_law_806 hI.2.2.2.2.2.2.2.2.2 rfl (by omega) (jk_x (by omega) (by omega)) ?_
  refine sg_aload_n (pc := 807) (j := 0) dL_law_807 rfl rfl ?_
  refine sg_iload (pc := 808) dL_law_808 rfl ?_
  refine sg_iconst (pc := 810) (z := 2) dL_law_810 (by decide) ?_
  first | refine sg_iaddB (pc := 811) dL_law_811 (by omega) (by omega) ?_ | refine sg_iadd (pc := 811) dL_law_811 ?_
  refine sg_iald (pc := 812) dL_law_812 hI.2.2.2.2.2.2.2.2.2 rfl (by omega) (jk_x (by omega) (by omega)) ?_
  refine sg_aload_n (pc := 813) (j := 3) dL_law_813 rfl rfl ?_
  refine st_cS4 (pc := 814) (d' := d - 1) (mc' := 8) (ms' := 48) g dL_law_814 cb_L_put cw_L_put ml_L_233 ms_L_put (Nat.le_of_ble_eq_true rfl) (by first | exact jl_d0 hd rfl | omega) (by first | exact Nat.le_of_ble_eq_true rfl | omega) (by first | exact Nat.le_of_ble_eq_true rfl | omega) ?_
  refine s_L_put g nc (by omega) hI (fun v1 h1 I1 X1 => sg_K1 ?_)
  refine sg_istore (pc := 817) dL_law_817 (by decide) ?_
  refine sg_aload_n (pc := 819) (j := 2) dL_law_819 rfl rfl ?_
  refine sg_aload_n (pc := 820) (j := 0) dL_law_820 rfl rfl ?_
  refine sg_iload (pc := 821) dL_law_821 rfl ?_
  refine sg_iconst (pc := 823) (z := 1) dL_law_823 (by decide) ?_
  first | refine sg_iaddB (pc := 824) dL_law_824 (by omega) (by omega) ?_ | refine sg_iadd (pc := 824) dL_law_824 ?_
  refine sg_iald (pc := 825) dL_law_825 I1.2.2.2.2.2.2.2.2.2 rfl (by omega) (jk_x (by omega) (by omega)) ?_
  refine sg_aload_n (pc := 826) (j := 0) dL_law_826 rfl rfl ?_
  refine sg_iload (pc := 827) dL_law_827 rfl ?_
  refine sg_iconst (pc := 829) (z := 2) dL_law_829 (by decide) ?_
  first | refine sg_iaddB (pc := 830) dL_law_830 (by omega) (by omega) ?_ | refine sg_iadd (pc := 830) dL_law_830 ?_
  refine sg_iald (pc := 831) dL_law_831 I1.2.2.2.2.2.2.2.2.2 rfl (by omega) (jk_x (by omega) (by omega)) ?_
  refine st_as (fun H r => jk_tgR (B := B) r) ?_
  have m2 := jk_Im I1
  refine sg_cE2 (pc := 832) (d' := d - 1) (mc' := 4) (ms' := 81) 8 g dL_law_832 cb_X7_put ml_L_235 mn_X7_put rfl mv_X7_put (Nat.le_of_ble_eq_true rfl) (md_oc m2) (Nat.le_of_ble_eq_true rfl) (by first | exact jl_d0 hd rfl | omega) (by first | exact Nat.le_of_ble_eq_true rfl | omega) (by first | exact Nat.le_of_ble_eq_true rfl | omega) ?_
  refine s_X7_put g (by first | exact jl_d1 hd rfl | omega) m2 (fun v2 h2  y2 => sg_K1 ?_)
  refine st_as (fun H r => jk_unR I1.1 r) ?_
  have I2 := jk_IM I1 y2
  refine sg_istore (pc := 835) dL_law_835 (by decide) ?_
  refine sg_goto (pc := 837) (tgt := 2472) dL_law_837 (by decide) ?_
  refine sg_lsub (lv' := [(0, _), (1, _), (2, _), (3, _), (4, _)]) ⟨rfl, rfl, rfl, rfl, rfl, trivial⟩ ?_
  exact K _ _ _ I2 (by omega) (by omega)

set_option maxRecDepth 100000 in
set_option maxHeartbeats 1000000 in
theorem lw_c13 {w : sg_W} {Q : sg_O → sg_H → Prop} {h : sg_H} (g : sg_G w) (nc : jk_C w) (hJ : jz w) {d mc ms : Nat} (hd : 30 ≤ d) {B M O S j k n : Nat} {xs : List Int} (hI : jk_I w B M O S xs h) (hj : 6 * j + 6 ≤ xs.length) (hl : xs.length ≤ 3072) (hk : k + 1030 ≤ mc) (hn : n + (48 + 56) ≤ ms) (K : ∀ (h' : sg_H) (k' n' : Nat), jk_I w B M O S xs h' → k' ≤ k + 1030 → n' ≤ n + (48 + 56) → sg_R w mi_L_law d mc ms Q 2472 [(0, sg_r S), (1, sg_r B), (2, sg_r M), (3, sg_r O), (4, sg_i (6 * (j : Int)))] [] h' k' n') : sg_R w mi_L_law d mc ms Q 840 [(0, sg_r S), (1, sg_r B), (2, sg_r M), (3, sg_r O), (4, sg_i (6 * (j : Int)))] [] h k n := by
  refine sg_aload_n (pc := 840) (j := 1) dL_law_840 rfl rfl ?_
  refine sg_aload_n (pc := 841) (j := 0) dL_law_841 rfl rfl ?_
  refine sg_iload (pc := 842) dL_law_842 rfl ?_
  refine sg_iconst (pc := 844) (z := 1) dL_law_844 (by decide) ?_
  first | refine sg_iaddB (pc := 845) dL_law_845 (by omega) (by omega) ?_ | refine sg_iadd (pc := 845) dL_law_845 ?_
  refine sg_iald (pc := 846) dL_law_846 hI.2.2.2.2.2.2.2.2.2 rfl (by omega) (jk_x (by omega) (by omega)) ?_
  refine sg_aload_n (pc := 847) (j := 0) dL_law_847 rfl rfl ?_
  refine sg_iload (pc := 848) dL_law_848 rfl ?_
  refine sg_iconst (pc := 850) (z := 2) dL_law_850 (by decide) ?_
  first | refine sg_iaddB (pc := 851) dL_law_851 (by omega) (by omega) ?_ | refine sg_iadd (pc := 851) dL_law_851 ?_
  refine sg_iald (pc := 852) dL_law_852 hI.2.2.2.2.2.2.2.2.2 rfl (by omega) (jk_x (by omega) (by omega)) ?_
  refine sg_aload_n (pc := 853) (j := 3) dL_law_853 rfl rfl ?_
  refine st_cS4 (pc := 854) (d' := d - 1) (mc' := 8) (ms' := 48) g dL_law_854 cb_L_cut cw_L_cut ml_L_236 ms_L_cut (Nat.le_of_ble_eq_true rfl) (by first | exact jl_d0 hd rfl | omega) (by first | exact Nat.le_of_ble_eq_true rfl | omega) (by first | exact Nat.le_of_ble_eq_true rfl | omega) ?_
  refine s_L_cut g nc (by omega) hI (fun v1 h1 I1 X1 => sg_K1 ?_)
  refine sg_istore (pc := 857) dL_law_857 (by decide) ?_
  refine sg_aload_n (pc := 859) (j := 2) dL_law_859 rfl rfl ?_
  refine sg_aload_n (pc := 860) (j := 0) dL_law_860 rfl rfl ?_
  refine sg_iload (pc := 861) dL_law_861 rfl ?_
  refine sg_iconst (pc := 863) (z := 1) dL_law_863 (by decide) ?_
  first | refine sg_iaddB (pc := 864) dL_law_864 (by omega) (by omega) ?_ | refine sg_iadd (pc := 864) dL_law_864 ?_
  refine sg_iald (pc := 865) dL_law_865 I1.2.2.2.2.2.2.2.2.2 rfl (by omega) (jk_x (by omega) (by omega)) ?_
  refine sg_aload_n (pc := 866) (j := 0) dL_law_866 rfl rfl ?_
  refine sg_iload (pc := 867) dL_law_867 rfl ?_
  refine sg_iconst (pc := 869) (z := 2) dL_law_869 (by decide) ?_
  first | refine sg_iaddB (pc := 870) dL_law_870 (by omega) (by omega) ?_ | refine sg_iadd (pc := 870) dL_law_870 ?_
  refine sg_iald (pc := 871) dL_law_871 I1.2.2.2.2.2.2.2.2.2 rfl (by omega) (jk_x (by omega) (by omega)) ?_
  refine st_as (fun H r => jk_tgR (B := B) r) ?_
  have m2 := jk_Im I1
  refine sg_cE2 (pc := 872) (d' := d - 1) (mc' := 3) (ms' := 56) 8 g dL_law_872 cb_X7_cut ml_L_238 mn_X7_cut rfl mv_X7_cut (Nat.le_of_ble_eq_true rfl) (md_oc m2) (Nat.le_of_ble_eq_true rfl) (by first | exact jl_d0 hd rfl | omega) (by first | exact Nat.le_of_ble_eq_true rfl | omega) (by first | exact Nat.le_of_ble_eq_true rfl | omega) ?_
  refine s_X7_cut g (by first | exact jl_d1 hd rfl | omega) m2 (fun v2 h2  y2 => sg_K1 ?_)
  refine st_as (fun H r => jk_unR I1.1 r) ?_
  have I2 := jk_IM I1 y2
  refine sg_istore (pc := 875) dL_law_875 (by decide) ?_
  refine sg_goto (pc := 877) (tgt := 2472) dL_law_877 (by decide) ?_
  refine sg_lsub (lv' := [(0, _), (1, _), (2, _), (3, _), (4, _)]) ⟨rfl, rfl, rfl, rfl, rfl, trivial⟩ ?_
  exact K _ _ _ I2 (by omega) (by omega)

set_option maxRecDepth 100000 in
set_option maxHeartbeats 1000000 in
theorem lw_c14 {w : sg_W} {Q : sg_O → sg_H → Prop} {h : sg_H} (g : sg_G w) (nc : jk_C w) (hJ : jz w) {d mc ms : Nat} (hd : 30 ≤ d) {B M O S j k n : Nat} {xs : List Int} (hI : jk_I w B M O S xs h) (hj : 6 * j + 6 ≤ xs.length) (hl : xs.length ≤ 3072) (hk : k + 1030 ≤ mc) (hn : n + (48 + 56) ≤ ms) (K : ∀ (h' : sg_H) (k' n' : Nat), jk_I w B M O S xs h' → k' ≤ k + 1030 → n' ≤ n + (48 + 56) → sg_R w mi_L_law d mc ms Q 2472 [(0, sg_r S), (1, sg_r B), (2, sg_r M), (3, sg_r O), (4, sg_i (6 * (j : Int)))] [] h' k' n') : sg_R w mi_L_law d mc ms Q 880 [(0, sg_r S), (1, sg_r B), (2, sg_r M), (3, sg_r O), (4, sg_i (6 * (j : Int)))] [] h k n := by
  refine sg_aload_n (pc := 880) (j := 1) dL_law_880 rfl rfl ?_
  refine sg_aload_n (pc := 881) (j := 0) dL_law_881 rfl rfl ?_
  refine sg_iload (pc := 882) dL_law_882 rfl ?_
  refine sg_iconst (pc := 884) (z := 1) dL_law_884 (by decide) ?_
  first | refine sg_iaddB (pc := 885) dL_law_885 (by omega) (by omega) ?_ | refine sg_iadd (pc := 885) dL_law_885 ?_
  refine sg_iald (pc := 886) dL_law_886 hI.2.2.2.2.2.2.2.2.2 rfl (by omega) (jk_x (by omega) (by omega)) ?_
  refine sg_aload_n (pc := 887) (j := 3) dL_law_887 rfl rfl ?_
  refine st_cS3 (pc := 888) (d' := d - 1) (mc' := 8) (ms' := 48) g dL_law_888 cb_L_flip cw_L_flip ml_L_239 ms_L_flip (Nat.le_of_ble_eq_true rfl) (by first | exact jl_d0 hd rfl | omega) (by first | exact Nat.le_of_ble_eq_true rfl | omega) (by first | exact Nat.le_of_ble_eq_true rfl | omega) ?_
  refine s_L_flip g nc (by omega) hI (fun v1 h1 I1 X1 => sg_K1 ?_)
  refine sg_istore (pc := 891) dL_law_891 (by decide) ?_
  refine sg_aload_n (pc := 893) (j := 2) dL_law_893 rfl rfl ?_
  refine sg_aload_n (pc := 894) (j := 0) dL_law_894 rfl rfl ?_
  refine sg_iload (pc := 895) dL_law_895 rfl ?_
  refine sg_iconst (pc := 897) (z := 1) dL_law_897 (by decide) ?_
  first | refine sg_iaddB (pc := 898) dL_law_898 (by omega) (by omega) ?_ | refine sg_iadd (pc := 898) dL_law_898 ?_
  refine sg_iald (pc := 899) dL_law_899 I1.2.2.2.2.2.2.2.2.2 rfl (by omega) (jk_x (by omega) (by omega)) ?_
  refine st_as (fun H r => jk_tgR (B := B) r) ?_
  have m2 := jk_Im I1
  refine sg_cE1 (pc := 900) (d' := d - 1) (mc' := 3) (ms' := 56) 8 g dL_law_900 cb_X7_flip ml_L_241 mn_X7_flip rfl mv_X7_flip (Nat.le_of_ble_eq_true rfl) (md_oc m2) (Nat.le_of_ble_eq_true rfl) (by first | exact jl_d0 hd rfl | omega) (by first | exact Nat.le_of_ble_eq_true rfl | omega) (by first | exact Nat.le_of_ble_eq_true rfl | omega) ?_
  refine s_X7_flip g (by first | exact jl_d1 hd rfl | omega) m2 (fun v2 h2  y2 => sg_K1 ?_)
  refine st_as (fun H r => jk_unR I1.1 r) ?_
  have I2 := jk_IM I1 y2
  refine sg_istore (pc := 903) dL_law_903 (by decide) ?_
  refine sg_goto (pc := 905) (tgt := 2472) dL_law_905 (by decide) ?_
  refine sg_lsub (lv' := [(0, _), (1, _), (2, _), (3, _), (4, _)]) ⟨rfl, rfl, rfl, rfl, rfl, trivial⟩ ?_
  exact K _ _ _ I2 (by omega) (by omega)

set_option maxRecDepth 100000 in
set_option maxHeartbeats 1000000 in
theorem lw_c15 {w : sg_W} {Q : sg_O → sg_H → Prop} {h : sg_H} (g : sg_G w) (nc : jk_C w) (hJ : jz w) {d mc ms : Nat} (hd : 30 ≤ d) {B M O S j k n : Nat} {xs : List Int} (hI : jk_I w B M O S xs h) (hj : 6 * j + 6 ≤ xs.length) (hl : xs.length ≤ 3072) (hk : k + 1030 ≤ mc) (hn : n + (48 + 2100) ≤ ms) (K : ∀ (h' : sg_H) (k' n' : Nat), jk_I w B M O S xs h' → k' ≤ k + 1030 → n' ≤ n + (48 + 2100) → sg_R w mi_L_law d mc ms Q 2472 [(0, sg_r S), (1, sg_r B), (2, sg_r M), (3, sg_r O), (4, sg_i (6 * (j : Int)))] [] h' k' n') : sg_R w mi_L_law d mc ms Q 908 [(0, sg_r S), (1, sg_r B), (2, sg_r M), (3, sg_r O), (4, sg_i (6 * (j : Int)))] [] h k n := by
  refine sg_aload_n (pc := 908) (j := 1) dL_law_908 rfl rfl ?_
  refine sg_aload_n (pc := 909) (j := 0) dL_law_909 rfl rfl ?_
  refine sg_iload (pc := 910) dL_law_910 rfl ?_
  refine sg_iconst (pc := 912) (z := 1) dL_law_912 (by decide) ?_
  first | refine sg_iaddB (pc := 913) dL_law_913 (by omega) (by omega) ?_ | refine sg_iadd (pc := 913) dL_law_913 ?_
  refine sg_iald (pc := 914) dL_law_914 hI.2.2.2.2.2.2.2.2.2 rfl (by omega) (jk_x (by omega) (by omega)) ?_
  refine sg_aload_n (pc := 915) (j := 3) dL_law_915 rfl rfl ?_
  refine st_cS3 (pc := 916) (d' := d - 1) (mc' := 8) (ms' := 48) g dL_law_916 cb_L_reverse cw_L_reverse ml_L_242 ms_L_reverse (Nat.le_of_ble_eq_true rfl) (by first | exact jl_d0 hd rfl | omega) (by first | exact Nat.le_of_ble_eq_true rfl | omega) (by first | exact Nat.le_of_ble_eq_true rfl | omega) ?_
  refine s_L_reverse g nc (by omega) hI (fun v1 h1 I1 X1 => sg_K1 ?_)
  refine sg_istore (pc := 919) dL_law_919 (by decide) ?_
  refine sg_aload_n (pc := 921) (j := 2) dL_law_921 rfl rfl ?_
  refine sg_aload_n (pc := 922) (j := 0) dL_law_922 rfl rfl ?_
  refine sg_iload (pc := 923) dL_law_923 rfl ?_
  refine sg_iconst (pc := 925) (z := 1) dL_law_925 (by decide) ?_
  first | refine sg_iaddB (pc := 926) dL_law_926 (by omega) (by omega) ?_ | refine sg_iadd (pc := 926) dL_law_926 ?_
  refine sg_iald (pc := 927) dL_law_927 I1.2.2.2.2.2.2.2.2.2 rfl (by omega) (jk_x (by omega) (by omega)) ?_
  refine st_as (fun H r => jk_tgR (B := B) r) ?_
  have m2 := jk_Im I1
  refine sg_cE1 (pc := 928) (d' := d - 1) (mc' := 210) (ms' := 2100) 8 g dL_law_928 cb_X7_reverse ml_L_244 mn_X7_reverse rfl mv_X7_reverse (Nat.le_of_ble_eq_true rfl) (md_oc m2) (Nat.le_of_ble_eq_true rfl) (by first | exact jl_d0 hd rfl | omega) (by first | exact Nat.le_of_ble_eq_true rfl | omega) (by first | exact Nat.le_of_ble_eq_true rfl | omega) ?_
  refine s_X7_reverse g (by first | exact jl_d1 hd rfl | omega) m2 (fun v2 h2  y2 => sg_K1 ?_)
  refine st_as (fun H r => jk_unR I1.1 r) ?_
  have I2 := jk_IM I1 y2
  refine sg_istore (pc := 931) dL_law_931 (by decide) ?_
  refine sg_goto (pc := 933) (tgt := 2472) dL_law_933 (by decide) ?_
  refine sg_lsub (lv' := [(0, _), (1, _), (2, _), (3, _), (4, _)]) ⟨rfl, rfl, rfl, rfl, rfl, trivial⟩ ?_
  exact K _ _ _ I2 (by omega) (by omega)

set_option maxRecDepth 100000 in
set_option maxHeartbeats 1000000 in
theorem lw_c16 {w : sg_W} {Q : sg_O → sg_H → Prop} {h : sg_H} (g : sg_G w) (nc : jk_C w) (hJ : jz w) {d mc ms : Nat} (hd : 30 ≤ d) {B M O S j k n : Nat} {xs : List Int} (hI : jk_I w B M O S xs h) (hj : 6 * j + 6 ≤ xs.length) (hl : xs.length ≤ 3072) (hk : k + 1030 ≤ mc) (hn : n + (48 + 0) ≤ ms) (K : ∀ (h' : sg_H) (k' n' : Nat), jk_I w B M O S xs h' → k' ≤ k + 1030 → n' ≤ n + (48 + 0) → sg_R w mi_L_law d mc ms Q 2472 [(0, sg_r S), (1, sg_r B), (2, sg_r M), (3, sg_r O), (4, sg_i (6 * (j : Int)))] [] h' k' n') : sg_R w mi_L_law d mc ms Q 936 [(0, sg_r S), (1, sg_r B), (2, sg_r M), (3, sg_r O), (4, sg_i (6 * (j : Int)))] [] h k n := by
  refine sg_aload_n (pc := 936) (j := 1) dL_law_936 rfl rfl ?_
  refine sg_aload_n (pc := 937) (j := 3) dL_law_937 rfl rfl ?_
  refine st_cS2 (pc := 938) (d' := d - 1) (mc' := 8) (ms' := 48) g dL_law_938 cb_L_undo cw_L_undo ml_L_245 ms_L_undo (Nat.le_of_ble_eq_true rfl) (by first | exact jl_d0 hd rfl | omega) (by first | exact Nat.le_of_ble_eq_true rfl | omega) (by first | exact Nat.le_of_ble_eq_true rfl | omega) ?_
  refine s_L_undo g nc (by omega) hI (fun v1 h1 I1 X1 => sg_K1 ?_)
  refine sg_istore (pc := 941) dL_law_941 (by decide) ?_
  refine sg_aload_n (pc := 943) (j := 2) dL_law_943 rfl rfl ?_
  refine st_as (fun H r => jk_tgR (B := B) r) ?_
  have m2 := jk_Im I1
  refine sg_cE0 (pc := 944) (d' := d - 1) (mc' := 0) (ms' := 0) 8 g dL_law_944 cb_X7_undo ml_L_248 mn_X7_undo rfl mv_X7_undo (Nat.le_of_ble_eq_true rfl) (md_oc m2) (Nat.le_of_ble_eq_true rfl) (by first | exact jl_d0 hd rfl | omega) (by first | exact Nat.le_of_ble_eq_true rfl | omega) (by first | exact Nat.le_of_ble_eq_true rfl | omega) ?_
  refine s_X7_undo g (by first | exact jl_d1 hd rfl | omega) m2 (fun v2 h2  y2 => sg_K1 ?_)
  refine st_as (fun H r => jk_unR I1.1 r) ?_
  have I2 := jk_IM I1 y2
  refine sg_istore (pc := 947) dL_law_947 (by decide) ?_
  refine sg_goto (pc := 949) (tgt := 2472) dL_law_949 (by decide) ?_
  refine sg_lsub (lv' := [(0, _), (1, _), (2, _), (3, _), (4, _)]) ⟨rfl, rfl, rfl, rfl, rfl, trivial⟩ ?_
  exact K _ _ _ I2 (by omega) (by omega)

set_option maxRecDepth 100000 in
set_option maxHeartbeats 1000000 in
theorem lw_c17 {w : sg_W} {Q : sg_O → sg_H → Prop} {h : sg_H} (g : sg_G w) (nc : jk_C w) (hJ : jz w) {d mc ms : Nat} (hd : 30 ≤ d) {B M O S j k n : Nat} {xs : List Int} (hI : jk_I w B M O S xs h) (hj : 6 * j + 6 ≤ xs.length) (hl : xs.length ≤ 3072) (hk : k + 1030 ≤ mc) (hn : n + (0 + 0) ≤ ms) (K : ∀ (h' : sg_H) (k' n' : Nat), jk_I w B M O S xs h' → k' ≤ k + 1030 → n' ≤ n + (0 + 0) → sg_R w mi_L_law d mc ms Q 2472 [(0, sg_r S), (1, sg_r B), (2, sg_r M), (3, sg_r O), (4, sg_i (6 * (j : Int)))] [] h' k' n') : sg_R w mi_L_law d mc ms Q 952 [(0, sg_r S), (1, sg_r B), (2, sg_r M), (3, sg_r O), (4, sg_i (6 * (j : Int)))] [] h k n := by
  refine sg_aload_n (pc := 952) (j := 1) dL_law_952 rfl rfl ?_
  refine sg_cE0 (pc := 953) (d' := d - 1) (mc' := 0) (ms' := 0) 6 g dL_law_953 cb_X5_knock ml_L_249 mn_X5_knock rfl mv_X5_knock (Nat.le_of_ble_eq_true rfl) (ck_oc hI.2.2.1) (Nat.le_of_ble_eq_true rfl) (by first | exact jl_d0 hd rfl | omega) (by first | exact Nat.le_of_ble_eq_true rfl | omega) (by first | exact Nat.le_of_ble_eq_true rfl | omega) ?_
  refine s_X5_knock g (by first | exact jl_d1 hd rfl | omega) hI.2.2.1 (fun v1 h1 y1 => sg_K1 ?_)
  have I1 := (jk_IY hI y1).1
  refine sg_pop (pc := 956) dL_law_956 rfl ?_
  refine sg_aload_n (pc := 957) (j := 2) dL_law_957 rfl rfl ?_
  refine st_as (fun H r => jk_tgR (B := B) r) ?_
  have m2 := jk_Im I1
  refine sg_cE0 (pc := 958) (d' := d - 1) (mc' := 0) (ms' := 0) 8 g dL_law_958 cb_X7_knock ml_L_252 mn_X7_knock rfl mv_X7_knock (Nat.le_of_ble_eq_true rfl) (md_oc m2) (Nat.le_of_ble_eq_true rfl) (by first | exact jl_d0 hd rfl | omega) (by first | exact Nat.le_of_ble_eq_true rfl | omega) (by first | exact Nat.le_of_ble_eq_true rfl | omega) ?_
  refine s_X7_knock g (by first | exact jl_d1 hd rfl | omega) m2 (fun v2 h2  y2 => sg_K1 ?_)
  refine st_as (fun H r => jk_unR I1.1 r) ?_
  have I2 := jk_IM I1 y2
  refine sg_pop (pc := 961) dL_law_961 rfl ?_
  refine sg_goto (pc := 962) (tgt := 2472) dL_law_962 (by decide) ?_
  refine sg_lsub (lv' := [(0, _), (1, _), (2, _), (3, _), (4, _)]) ⟨rfl, rfl, rfl, rfl, rfl, trivial⟩ ?_
  exact K _ _ _ I2 (by omega) (by omega)

set_option maxRecDepth 100000 in
set_option maxHeartbeats 1000000 in
theorem lw_c18 {w : sg_W} {Q : sg_O → sg_H → Prop} {h : sg_H} (g : sg_G w) (nc : jk_C w) (hJ : jz w) {d mc ms : Nat} (hd : 30 ≤ d) {B M O S j k n : Nat} {xs : List Int} (hI : jk_I w B M O S xs h) (hj : 6 * j + 6 ≤ xs.length) (hl : xs.length ≤ 3072) (hk : k + 1030 ≤ mc) (hn : n + (48 + 0) ≤ ms) (K : ∀ (h' : sg_H) (k' n' : Nat), jk_I w B M O S xs h' → k' ≤ k + 1030 → n' ≤ n + (48 + 0) → sg_R w mi_L_law d mc ms Q 2472 [(0, sg_r S), (1, sg_r B), (2, sg_r M), (3, sg_r O), (4, sg_i (6 * (j : Int)))] [] h' k' n') : sg_R w mi_L_law d mc ms Q 965 [(0, sg_r S), (1, sg_r B), (2, sg_r M), (3, sg_r O), (4, sg_i (6 * (j : Int)))] [] h k n := by
  refine sg_aload_n (pc := 965) (j := 1) dL_law_965 rfl rfl ?_
  refine sg_aload_n (pc := 966) (j := 0) dL_law_966 rfl rfl ?_
  refine sg_iload (pc := 967) dL_law_967 rfl ?_
  refine sg_iconst (pc := 969) (z := 1) dL_law_969 (by decide) ?_
  first | refine sg_iaddB (pc := 970) dL_law_970 (by omega) (by omega) ?_ | refine sg_iadd (pc := 970) dL_law_970 ?_
  refine sg_iald (pc := 971) dL_law_971 hI.2.2.2.2.2.2.2.2.2 rfl (by omega) (jk_x (by omega) (by omega)) ?_
  refine sg_aload_n (pc := 972) (j := 3) dL_law_972 rfl rfl ?_
  refine st_cS3 (pc := 973) (d' := d - 1) (mc' := 8) (ms' := 48) g dL_law_973 cb_L_isDigit cw_L_isDigit ml_L_253 ms_L_isDigit (Nat.le_of_ble_eq_true rfl) (by first | exact jl_d0 hd rfl | omega) (by first | exact Nat.le_of_ble_eq_true rfl | omega) (by first | exact Nat.le_of_ble_eq_true rfl | omega) ?_
  refine s_L_isDigit g nc (by omega) hI (fun v1 h1 I1 X1 k1 o1 => sg_K1 ?_)
  refine sg_istore (pc := 976) dL_law_976 (by decide) ?_
  refine sg_aload_n (pc := 978) (j := 2) dL_law_978 rfl rfl ?_
  refine sg_aload_n (pc := 979) (j := 0) dL_law_979 rfl rfl ?_
  refine sg_iload (pc := 980) dL_law_980 rfl ?_
  refine sg_iconst (pc := 982) (z := 1) dL_law_982 (by decide) ?_
  first | refine sg_iaddB (pc := 983) dL_law_983 (by omega) (by omega) ?_ | refine sg_iadd (pc := 983) dL_law_983 ?_
  refine sg_iald (pc := 984) dL_law_984 I1.2.2.2.2.2.2.2.2.2 rfl (by omega) (jk_x (by omega) (by omega)) ?_
  refine st_as (fun H r => jk_tgR (B := B) r) ?_
  have m2 := jk_Im I1
  refine sg_cE1 (pc := 985) (d' := d - 1) (mc' := 0) (ms' := 0) 8 g dL_law_985 cb_X7_isDigit ml_L_255 mn_X7_isDigit rfl mv_X7_isDigit (Nat.le_of_ble_eq_true rfl) (md_oc m2) (Nat.le_of_ble_eq_true rfl) (by first | exact jl_d0 hd rfl | omega) (by first | exact Nat.le_of_ble_eq_true rfl | omega) (by first | exact Nat.le_of_ble_eq_true rfl | omega) ?_
  refine s_X7_isDigit g (by first | exact jl_d1 hd rfl | omega) m2 (fun v2 h2 c2_0 c2_1 c2_2 y2 => sg_K1 ?_)
  refine st_as (fun H r => jk_unR I1.1 r) ?_
  have I2 := jk_IM I1 y2
  have eo := jk_oM I1 y2
  refine sg_istore (pc := 988) dL_law_988 (by decide) ?_
  refine sg_goto (pc := 990) (tgt := 2472) dL_law_990 (by decide) ?_
  refine sg_lsub (lv' := [(0, _), (1, _), (2, _), (3, _), (4, _)]) ⟨rfl, rfl, rfl, rfl, rfl, trivial⟩ ?_
  exact K _ _ _ I2 (by omega) (by omega)

set_option maxRecDepth 100000 in
set_option maxHeartbeats 1000000 in
theorem lw_c19 {w : sg_W} {Q : sg_O → sg_H → Prop} {h : sg_H} (g : sg_G w) (nc : jk_C w) (hJ : jz w) {d mc ms : Nat} (hd : 30 ≤ d) {B M O S j k n : Nat} {xs : List Int} (hI : jk_I w B M O S xs h) (hj : 6 * j + 6 ≤ xs.length) (hl : xs.length ≤ 3072) (hk : k + 1030 ≤ mc) (hn : n + (48 + 0) ≤ ms) (K : ∀ (h' : sg_H) (k' n' : Nat), jk_I w B M O S xs h' → k' ≤ k + 1030 → n' ≤ n + (48 + 0) → sg_R w mi_L_law d mc ms Q 2472 [(0, sg_r S), (1, sg_r B), (2, sg_r M), (3, sg_r O), (4, sg_i (6 * (j : Int)))] [] h' k' n') : sg_R w mi_L_law d mc ms Q 993 [(0, sg_r S), (1, sg_r B), (2, sg_r M), (3, sg_r O), (4, sg_i (6 * (j : Int)))] [] h k n := by
  refine sg_aload_n (pc := 993) (j := 1) dL_law_993 rfl rfl ?_
  refine sg_aload_n (pc := 994) (j := 0) dL_law_994 rfl rfl ?_
  refine sg_iload (pc := 995) dL_law_995 rfl ?_
  refine sg_iconst (pc := 997) (z := 1) dL_law_997 (by decide) ?_
  first | refine sg_iaddB (pc := 998) dL_law_998 (by omega) (by omega) ?_ | refine sg_iadd (pc := 998) dL_law_998 ?_
  refine sg_iald (pc := 999) dL_law_999 hI.2.2.2.2.2.2.2.2.2 rfl (by omega) (jk_x (by omega) (by omega)) ?_
  refine sg_aload_n (pc := 1000) (j := 3) dL_law_1000 rfl rfl ?_
  refine st_cS3 (pc := 1001) (d' := d - 1) (mc' := 8) (ms' := 48) g dL_law_1001 cb_L_isLetter cw_L_isLetter ml_L_256 ms_L_isLetter (Nat.le_of_ble_eq_true rfl) (by first | exact jl_d0 hd rfl | omega) (by first | exact Nat.le_of_ble_eq_true rfl | omega) (by first | exact Nat.le_of_ble_eq_true rfl | omega) ?_
  refine s_L_isLetter g nc (by omega) hI (fun v1 h1 I1 X1 k1 o1 => sg_K1 ?_)
  refine sg_istore (pc := 1004) dL_law_1004 (by decide) ?_
  refine sg_aload_n (pc := 1006) (j := 2) dL_law_1006 rfl rfl ?_
  refine sg_aload_n (pc := 1007) (j := 0) dL_law_1007 rfl rfl ?_
  refine sg_iload (pc := 1008) dL_law_1008 rfl ?_
  refine sg_iconst (pc := 1010) (z := 1) dL_law_1010 (by decide) ?_
  first | refine sg_iaddB (pc := 1011) dL_law_1011 (by omega) (by omega) ?_ | refine sg_iadd (pc := 1011) dL_law_1011 ?_
  refine sg_iald (pc := 1012) dL_law_1012 I1.2.2.2.2.2.2.2.2.2 rfl (by omega) (jk_x (by omega) (by omega)) ?_
  refine st_as (fun H r => jk_tgR (B := B) r) ?_
  have m2 := jk_Im I1
  refine sg_cE1 (pc := 1013) (d' := d - 1) (mc' := 0) (ms' := 0) 8 g dL_law_1013 cb_X7_isLetter ml_L_258 mn_X7_isLetter rfl mv_X7_isLetter (Nat.le_of_ble_eq_true rfl) (md_oc m2) (Nat.le_of_ble_eq_true rfl) (by first | exact jl_d0 hd rfl | omega) (by first | exact Nat.le_of_ble_eq_true rfl | omega) (by first | exact Nat.le_of_ble_eq_true rfl | omega) ?_
  refine s_X7_isLetter g (by first | exact jl_d1 hd rfl | omega) m2 (fun v2 h2 c2_0 c2_1 c2_2 y2 => sg_K1 ?_)
  refine st_as (fun H r => jk_unR I1.1 r) ?_
  have I2 := jk_IM I1 y2
  have eo := jk_oM I1 y2
  refine sg_istore (pc := 1016) dL_law_1016 (by decide) ?_
  refine sg_goto (pc := 1018) (tgt := 2472) dL_law_1018 (by decide) ?_
  refine sg_lsub (lv' := [(0, _), (1, _), (2, _), (3, _), (4, _)]) ⟨rfl, rfl, rfl, rfl, rfl, trivial⟩ ?_
  exact K _ _ _ I2 (by omega) (by omega)

set_option maxRecDepth 100000 in
set_option maxHeartbeats 1000000 in
theorem lw_c20 {w : sg_W} {Q : sg_O → sg_H → Prop} {h : sg_H} (g : sg_G w) (nc : jk_C w) (hJ : jz w) {d mc ms : Nat} (hd : 30 ≤ d) {B M O S j k n : Nat} {xs : List Int} (hI : jk_I w B M O S xs h) (hj : 6 * j + 6 ≤ xs.length) (hl : xs.length ≤ 3072) (hk : k + 1030 ≤ mc) (hn : n + (48 + 0) ≤ ms) (K : ∀ (h' : sg_H) (k' n' : Nat), jk_I w B M O S xs h' → k' ≤ k + 1030 → n' ≤ n + (48 + 0) → sg_R w mi_L_law d mc ms Q 2472 [(0, sg_r S), (1, sg_r B), (2, sg_r M), (3, sg_r O), (4, sg_i (6 * (j : Int)))] [] h' k' n') : sg_R w mi_L_law d mc ms Q 1021 [(0, sg_r S), (1, sg_r B), (2, sg_r M), (3, sg_r O), (4, sg_i (6 * (j : Int)))] [] h k n := by
  refine sg_aload_n (pc := 1021) (j := 1) dL_law_1021 rfl rfl ?_
  refine sg_aload_n (pc := 1022) (j := 0) dL_law_1022 rfl rfl ?_
  refine sg_iload (pc := 1023) dL_law_1023 rfl ?_
  refine sg_iconst (pc := 1025) (z := 1) dL_law_1025 (by decide) ?_
  first | refine sg_iaddB (pc := 1026) dL_law_1026 (by omega) (by omega) ?_ | refine sg_iadd (pc := 1026) dL_law_1026 ?_
  refine sg_iald (pc := 1027) dL_law_1027 hI.2.2.2.2.2.2.2.2.2 rfl (by omega) (jk_x (by omega) (by omega)) ?_
  refine sg_aload_n (pc := 1028) (j := 3) dL_law_1028 rfl rfl ?_
  refine st_cS3 (pc := 1029) (d' := d - 1) (mc' := 8) (ms' := 48) g dL_law_1029 cb_L_isLetterOrDigit cw_L_isLetterOrDigit ml_L_259 ms_L_isLetterOrDigit (Nat.le_of_ble_eq_true rfl) (by first | exact jl_d0 hd rfl | omega) (by first | exact Nat.le_of_ble_eq_true rfl | omega) (by first | exact Nat.le_of_ble_eq_true rfl | omega) ?_
  refine s_L_isLetterOrDigit g nc (by omega) hI (fun v1 h1 I1 X1 k1 o1 => sg_K1 ?_)
  refine sg_istore (pc := 1032) dL_law_1032 (by decide) ?_
  refine sg_aload_n (pc := 1034) (j := 2) dL_law_1034 rfl rfl ?_
  refine sg_aload_n (pc := 1035) (j := 0) dL_law_1035 rfl rfl ?_
  refine sg_iload (pc := 1036) dL_law_1036 rfl ?_
  refine sg_iconst (pc := 1038) (z := 1) dL_law_1038 (by decide) ?_
  first | refine sg_iaddB (pc := 1039) dL_law_1039 (by omega) (by omega) ?_ | refine sg_iadd (pc := 1039) dL_law_1039 ?_
  refine sg_iald (pc := 1040) dL_law_1040 I1.2.2.2.2.2.2.2.2.2 rfl (by omega) (jk_x (by omega) (by omega)) ?_
  refine st_as (fun H r => jk_tgR (B := B) r) ?_
  have m2 := jk_Im I1
  refine sg_cE1 (pc := 1041) (d' := d - 1) (mc' := 0) (ms' := 0) 8 g dL_law_1041 cb_X7_isLetterOrDigit ml_L_261 mn_X7_isLetterOrDigit rfl mv_X7_isLetterOrDigit (Nat.le_of_ble_eq_true rfl) (md_oc m2) (Nat.le_of_ble_eq_true rfl) (by first | exact jl_d0 hd rfl | omega) (by first | exact Nat.le_of_ble_eq_true rfl | omega) (by first | exact Nat.le_of_ble_eq_true rfl | omega) ?_
  refine s_X7_isLetterOrDigit g (by first | exact jl_d1 hd rfl | omega) m2 (fun v2 h2 c2_0 c2_1 c2_2 y2 => sg_K1 ?_)
  refine st_as (fun H r => jk_unR I1.1 r) ?_
  have I2 := jk_IM I1 y2
  have eo := jk_oM I1 y2
  refine sg_istore (pc := 1044) dL_law_1044 (by decide) ?_
  refine sg_aload_n (pc := 1046) (j := 2) dL_law_1046 rfl rfl ?_
  obtain ⟨tv, eT⟩ := jk_th I2
  refine sg_cE0 (pc := 1047) (d' := d - 1) (mc' := 0) (ms' := 0) 8 g dL_law_1047 cb_X7_thrown ml_L_262 mn_X7_thrown rfl mv_X7_thrown (Nat.le_of_ble_eq_true rfl) ⟨_, eT⟩ (Nat.le_of_ble_eq_true rfl) (by first | exact jl_d0 hd rfl | omega) (by first | exact Nat.le_of_ble_eq_true rfl | omega) (by first | exact Nat.le_of_ble_eq_true rfl | omega) ?_
  refine s_X7_thrown g (by first | exact jl_d1 hd rfl | omega) eT (sg_K1 ?_)
  refine sg_iload (pc := 1050) dL_law_1050 rfl ?_
  refine sg_icmp_eq (pc := 1052) (tgt := 1057) dL_law_1052 (by decide) (fun ct => ?_) (fun ct => absurd ?_ ct)
  · refine sg_iload (pc := 1057) dL_law_1057 rfl ?_
    refine sg_if_ne (pc := 1059) (tgt := 1082) dL_law_1059 (by decide) (fun c1059 => ?_) (fun c1059 => ?_)
    · refine sg_goto (pc := 1082) (tgt := 2472) dL_law_1082 (by decide) ?_
      refine sg_lsub (lv' := [(0, _), (1, _), (2, _), (3, _), (4, _)]) ⟨rfl, rfl, rfl, rfl, rfl, trivial⟩ ?_
      exact K _ _ _ I2 (by omega) (by omega)
    · refine sg_aload_n (pc := 1062) (j := 3) dL_law_1062 rfl rfl ?_
      obtain ⟨ro, eO⟩ := jk_oz I2
      refine sg_getN (pc := 1063) g dL_law_1063 fk_L_13 eO rfl rfl ?_
      refine sg_iload (pc := 1066) dL_law_1066 rfl ?_
      refine sg_if_eq (pc := 1068) (tgt := 1075) dL_law_1068 (by decide) (fun c1068 => ?_) (fun c1068 => ?_)
      · refine sg_lconst (pc := 1075) (z := 0) dL_law_1075 (by decide) ?_
        refine sg_lcmp (pc := 1076) dL_law_1076 (fun zc ec => ?_)
        refine sg_if_eq (pc := 1077) (tgt := 1082) dL_law_1077 (by decide) (fun cq => ?_) (fun cq => absurd (ec.mpr ?_) cq)
        · refine sg_goto (pc := 1082) (tgt := 2472) dL_law_1082 (by decide) ?_
          refine sg_lsub (lv' := [(0, _), (1, _), (2, _), (3, _), (4, _)]) ⟨rfl, rfl, rfl, rfl, rfl, trivial⟩ ?_
          exact K _ _ _ I2 (by omega) (by omega)
        · rw [eo]
          omega
      · refine sg_lconst (pc := 1071) (z := 1) dL_law_1071 (by decide) ?_
        refine sg_goto (pc := 1072) (tgt := 1076) dL_law_1072 (by decide) ?_
        refine sg_lcmp (pc := 1076) dL_law_1076 (fun zc ec => ?_)
        refine sg_if_eq (pc := 1077) (tgt := 1082) dL_law_1077 (by decide) (fun cq => ?_) (fun cq => absurd (ec.mpr ?_) cq)
        · refine sg_goto (pc := 1082) (tgt := 2472) dL_law_1082 (by decide) ?_
          refine sg_lsub (lv' := [(0, _), (1, _), (2, _), (3, _), (4, _)]) ⟨rfl, rfl, rfl, rfl, rfl, trivial⟩ ?_
          exact K _ _ _ I2 (by omega) (by omega)
        · rw [eo]
          omega
  · omega

set_option maxRecDepth 100000 in
set_option maxHeartbeats 1000000 in
theorem lw_c21 {w : sg_W} {Q : sg_O → sg_H → Prop} {h : sg_H} (g : sg_G w) (nc : jk_C w) (hJ : jz w) {d mc ms : Nat} (hd : 30 ≤ d) {B M O S j k n : Nat} {xs : List Int} (hI : jk_I w B M O S xs h) (hj : 6 * j + 6 ≤ xs.length) (hl : xs.length ≤ 3072) (hk : k + 1030 ≤ mc) (hn : n + (48 + 0) ≤ ms) (K : ∀ (h' : sg_H) (k' n' : Nat), jk_I w B M O S xs h' → k' ≤ k + 1030 → n' ≤ n + (48 + 0) → sg_R w mi_L_law d mc ms Q 2472 [(0, sg_r S), (1, sg_r B), (2, sg_r M), (3, sg_r O), (4, sg_i (6 * (j : Int)))] [] h' k' n') : sg_R w mi_L_law d mc ms Q 1085 [(0, sg_r S), (1, sg_r B), (2, sg_r M), (3, sg_r O), (4, sg_i (6 * (j : Int)))] [] h k n := by
  refine sg_aload_n (pc := 1085) (j := 1) dL_law_1085 rfl rfl ?_
  refine sg_aload_n (pc := 1086) (j := 0) dL_law_1086 rfl rfl ?_
  refine sg_iload (pc := 1087) dL_law_1087 rfl ?_
  refine sg_iconst (pc := 1089) (z := 1) dL_law_1089 (by decide) ?_
  first | refine sg_iaddB (pc := 1090) dL_law_1090 (by omega) (by omega) ?_ | refine sg_iadd (pc := 1090) dL_law_1090 ?_
  refine sg_iald (pc := 1091) dL_law_1091 hI.2.2.2.2.2.2.2.2.2 rfl (by omega) (jk_x (by omega) (by omega)) ?_
  refine sg_aload_n (pc := 1092) (j := 3) dL_law_1092 rfl rfl ?_
  refine st_cS3 (pc := 1093) (d' := d - 1) (mc' := 8) (ms' := 48) g dL_law_1093 cb_L_isWhite cw_L_isWhite ml_L_265 ms_L_isWhite (Nat.le_of_ble_eq_true rfl) (by first | exact jl_d0 hd rfl | omega) (by first | exact Nat.le_of_ble_eq_true rfl | omega) (by first | exact Nat.le_of_ble_eq_true rfl | omega) ?_
  refine s_L_isWhite g nc (by omega) hI (fun v1 h1 I1 X1 k1 o1 => sg_K1 ?_)
  refine sg_istore (pc := 1096) dL_law_1096 (by decide) ?_
  refine sg_aload_n (pc := 1098) (j := 2) dL_law_1098 rfl rfl ?_
  refine sg_aload_n (pc := 1099) (j := 0) dL_law_1099 rfl rfl ?_
  refine sg_iload (pc := 1100) dL_law_1100 rfl ?_
  refine sg_iconst (pc := 1102) (z := 1) dL_law_1102 (by decide) ?_
  first | refine sg_iaddB (pc := 1103) dL_law_1103 (by omega) (by omega) ?_ | refine sg_iadd (pc := 1103) dL_law_1103 ?_
  refine sg_iald (pc := 1104) dL_law_1104 I1.2.2.2.2.2.2.2.2.2 rfl (by omega) (jk_x (by omega) (by omega)) ?_
  refine st_as (fun H r => jk_tgR (B := B) r) ?_
  have m2 := jk_Im I1
  refine sg_cE1 (pc := 1105) (d' := d - 1) (mc' := 0) (ms' := 0) 8 g dL_law_1105 cb_X7_isWhite ml_L_267 mn_X7_isWhite rfl mv_X7_isWhite (Nat.le_of_ble_eq_true rfl) (md_oc m2) (Nat.le_of_ble_eq_true rfl) (by first | exact jl_d0 hd rfl | omega) (by first | exact Nat.le_of_ble_eq_true rfl | omega) (by first | exact Nat.le_of_ble_eq_true rfl | omega) ?_
  refine s_X7_isWhite g (by first | exact jl_d1 hd rfl | omega) m2 (fun v2 h2 c2_0 c2_1 c2_2 y2 => sg_K1 ?_)
  refine st_as (fun H r => jk_unR I1.1 r) ?_
  have I2 := jk_IM I1 y2
  have eo := jk_oM I1 y2
  refine sg_istore (pc := 1108) dL_law_1108 (by decide) ?_
  refine sg_goto (pc := 1110) (tgt := 2472) dL_law_1110 (by decide) ?_
  refine sg_lsub (lv' := [(0, _), (1, _), (2, _), (3, _), (4, _)]) ⟨rfl, rfl, rfl, rfl, rfl, trivial⟩ ?_
  exact K _ _ _ I2 (by omega) (by omega)

set_option maxRecDepth 100000 in
set_option maxHeartbeats 1000000 in
theorem lw_c22 {w : sg_W} {Q : sg_O → sg_H → Prop} {h : sg_H} (g : sg_G w) (nc : jk_C w) (hJ : jz w) {d mc ms : Nat} (hd : 30 ≤ d) {B M O S j k n : Nat} {xs : List Int} (hI : jk_I w B M O S xs h) (hj : 6 * j + 6 ≤ xs.length) (hl : xs.length ≤ 3072) (hk : k + 1030 ≤ mc) (hn : n + (48 + 0) ≤ ms) (K : ∀ (h' : sg_H) (k' n' : Nat), jk_I w B M O S xs h' → k' ≤ k + 1030 → n' ≤ n + (48 + 0) → sg_R w mi_L_law d mc ms Q 2472 [(0, sg_r S), (1, sg_r B), (2, sg_r M), (3, sg_r O), (4, sg_i (6 * (j : Int)))] [] h' k' n') : sg_R w mi_L_law d mc ms Q 1113 [(0, sg_r S), (1, sg_r B), (2, sg_r M), (3, sg_r O), (4, sg_i (6 * (j : Int)))] [] h k n := by
  refine sg_aload_n (pc := 1113) (j := 1) dL_law_1113 rfl rfl ?_
  refine sg_aload_n (pc := 1114) (j := 0) dL_law_1114 rfl rfl ?_
  refine sg_iload (pc := 1115) dL_law_1115 rfl ?_
  refine sg_iconst (pc := 1117) (z := 1) dL_law_1117 (by decide) ?_
  first | refine sg_iaddB (pc := 1118) dL_law_1118 (by omega) (by omega) ?_ | refine sg_iadd (pc := 1118) dL_law_1118 ?_
  refine sg_iald (pc := 1119) dL_law_1119 hI.2.2.2.2.2.2.2.2.2 rfl (by omega) (jk_x (by omega) (by omega)) ?_
  refine sg_aload_n (pc := 1120) (j := 3) dL_law_1120 rfl rfl ?_
  refine st_cS3 (pc := 1121) (d' := d - 1) (mc' := 8) (ms' := 48) g dL_law_1121 cb_L_isGreat cw_L_isGreat ml_L_268 ms_L_isGreat (Nat.le_of_ble_eq_true rfl) (by first | exact jl_d0 hd rfl | omega) (by first | exact Nat.le_of_ble_eq_true rfl | omega) (by first | exact Nat.le_of_ble_eq_true rfl | omega) ?_
  refine s_L_isGreat g nc (by omega) hI (fun v1 h1 I1 X1 k1 o1 => sg_K1 ?_)
  refine sg_istore (pc := 1124) dL_law_1124 (by decide) ?_
  refine sg_aload_n (pc := 1126) (j := 2) dL_law_1126 rfl rfl ?_
  refine sg_aload_n (pc := 1127) (j := 0) dL_law_1127 rfl rfl ?_
  refine sg_iload (pc := 1128) dL_law_1128 rfl ?_
  refine sg_iconst (pc := 1130) (z := 1) dL_law_1130 (by decide) ?_
  first | refine sg_iaddB (pc := 1131) dL_law_1131 (by omega) (by omega) ?_ | refine sg_iadd (pc := 1131) dL_law_1131 ?_
  refine sg_iald (pc := 1132) dL_law_1132 I1.2.2.2.2.2.2.2.2.2 rfl (by omega) (jk_x (by omega) (by omega)) ?_
  refine st_as (fun H r => jk_tgR (B := B) r) ?_
  have m2 := jk_Im I1
  refine sg_cE1 (pc := 1133) (d' := d - 1) (mc' := 0) (ms' := 0) 8 g dL_law_1133 cb_X7_isGreat ml_L_270 mn_X7_isGreat rfl mv_X7_isGreat (Nat.le_of_ble_eq_true rfl) (md_oc m2) (Nat.le_of_ble_eq_true rfl) (by first | exact jl_d0 hd rfl | omega) (by first | exact Nat.le_of_ble_eq_true rfl | omega) (by first | exact Nat.le_of_ble_eq_true rfl | omega) ?_
  refine s_X7_isGreat g (by first | exact jl_d1 hd rfl | omega) m2 (fun v2 h2 c2_0 c2_1 c2_2 y2 => sg_K1 ?_)
  refine st_as (fun H r => jk_unR I1.1 r) ?_
  have I2 := jk_IM I1 y2
  have eo := jk_oM I1 y2
  refine sg_istore (pc := 1136) dL_law_1136 (by decide) ?_
  refine sg_goto (pc := 1138) (tgt := 2472) dL_law_1138 (by decide) ?_
  refine sg_lsub (lv' := [(0, _), (1, _), (2, _), (3, _), (4, _)]) ⟨rfl, rfl, rfl, rfl, rfl, trivial⟩ ?_
  exact K _ _ _ I2 (by omega) (by omega)

set_option maxRecDepth 100000 in
set_option maxHeartbeats 1000000 in
theorem lw_c23 {w : sg_W} {Q : sg_O → sg_H → Prop} {h : sg_H} (g : sg_G w) (nc : jk_C w) (hJ : jz w) {d mc ms : Nat} (hd : 30 ≤ d) {B M O S j k n : Nat} {xs : List Int} (hI : jk_I w B M O S xs h) (hj : 6 * j + 6 ≤ xs.length) (hl : xs.length ≤ 3072) (hk : k + 1030 ≤ mc) (hn : n + (48 + 0) ≤ ms) (K : ∀ (h' : sg_H) (k' n' : Nat), jk_I w B M O S xs h' → k' ≤ k + 1030 → n' ≤ n + (48 + 0) → sg_R w mi_L_law d mc ms Q 2472 [(0, sg_r S), (1, sg_r B), (2, sg_r M), (3, sg_r O), (4, sg_i (6 * (j : Int)))] [] h' k' n') : sg_R w mi_L_law d mc ms Q 1141 [(0, sg_r S), (1, sg_r B), (2, sg_r M), (3, sg_r O), (4, sg_i (6 * (j : Int)))] [] h k n := by
  refine sg_aload_n (pc := 1141) (j := 1) dL_law_1141 rfl rfl ?_
  refine sg_aload_n (pc := 1142) (j := 0) dL_law_1142 rfl rfl ?_
  refine sg_iload (pc := 1143) dL_law_1143 rfl ?_
  refine sg_iconst (pc := 1145) (z := 1) dL_law_1145 (by decide) ?_
  first | refine sg_iaddB (pc := 1146) dL_law_1146 (by omega) (by omega) ?_ | refine sg_iadd (pc := 1146) dL_law_1146 ?_
  refine sg_iald (pc := 1147) dL_law_1147 hI.2.2.2.2.2.2.2.2.2 rfl (by omega) (jk_x (by omega) (by omega)) ?_
  refine sg_aload_n (pc := 1148) (j := 3) dL_law_1148 rfl rfl ?_
  refine st_cS3 (pc := 1149) (d' := d - 1) (mc' := 8) (ms' := 48) g dL_law_1149 cb_L_kinds cw_L_kinds ml_L_271 ms_L_kinds (Nat.le_of_ble_eq_true rfl) (by first | exact jl_d0 hd rfl | omega) (by first | exact Nat.le_of_ble_eq_true rfl | omega) (by first | exact Nat.le_of_ble_eq_true rfl | omega) ?_
  refine s_L_kinds g nc (by omega) hI (fun v1 h1 I1 X1 k1 o1 => sg_K1 ?_)
  refine sg_istore (pc := 1152) dL_law_1152 (by decide) ?_
  refine sg_aload_n (pc := 1154) (j := 2) dL_law_1154 rfl rfl ?_
  refine sg_aload_n (pc := 1155) (j := 0) dL_law_1155 rfl rfl ?_
  refine sg_iload (pc := 1156) dL_law_1156 rfl ?_
  refine sg_iconst (pc := 1158) (z := 1) dL_law_1158 (by decide) ?_
  first | refine sg_iaddB (pc := 1159) dL_law_1159 (by omega) (by omega) ?_ | refine sg_iadd (pc := 1159) dL_law_1159 ?_
  refine sg_iald (pc := 1160) dL_law_1160 I1.2.2.2.2.2.2.2.2.2 rfl (by omega) (jk_x (by omega) (by omega)) ?_
  refine st_as (fun H r => jk_tgR (B := B) r) ?_
  have m2 := jk_Im I1
  refine sg_cE1 (pc := 1161) (d' := d - 1) (mc' := 0) (ms' := 0) 8 g dL_law_1161 cb_X7_kinds ml_L_273 mn_X7_kinds rfl mv_X7_kinds (Nat.le_of_ble_eq_true rfl) (md_oc m2) (Nat.le_of_ble_eq_true rfl) (by first | exact jl_d0 hd rfl | omega) (by first | exact Nat.le_of_ble_eq_true rfl | omega) (by first | exact Nat.le_of_ble_eq_true rfl | omega) ?_
  refine s_X7_kinds g (by first | exact jl_d1 hd rfl | omega) m2 (fun v2 h2 c2_0 c2_1 y2 => sg_K1 ?_)
  refine st_as (fun H r => jk_unR I1.1 r) ?_
  have I2 := jk_IM I1 y2
  have eo := jk_oM I1 y2
  refine sg_istore (pc := 1164) dL_law_1164 (by decide) ?_
  refine sg_goto (pc := 1166) (tgt := 2472) dL_law_1166 (by decide) ?_
  refine sg_lsub (lv' := [(0, _), (1, _), (2, _), (3, _), (4, _)]) ⟨rfl, rfl, rfl, rfl, rfl, trivial⟩ ?_
  exact K _ _ _ I2 (by omega) (by omega)

set_option maxRecDepth 100000 in
set_option maxHeartbeats 1000000 in
theorem lw_c24 {w : sg_W} {Q : sg_O → sg_H → Prop} {h : sg_H} (g : sg_G w) (nc : jk_C w) (hJ : jz w) {d mc ms : Nat} (hd : 30 ≤ d) {B M O S j k n : Nat} {xs : List Int} (hI : jk_I w B M O S xs h) (hj : 6 * j + 6 ≤ xs.length) (hl : xs.length ≤ 3072) (hk : k + 1030 ≤ mc) (hn : n + (48 + 0) ≤ ms) (K : ∀ (h' : sg_H) (k' n' : Nat), jk_I w B M O S xs h' → k' ≤ k + 1030 → n' ≤ n + (48 + 0) → sg_R w mi_L_law d mc ms Q 2472 [(0, sg_r S), (1, sg_r B), (2, sg_r M), (3, sg_r O), (4, sg_i (6 * (j : Int)))] [] h' k' n') : sg_R w mi_L_law d mc ms Q 1169 [(0, sg_r S), (1, sg_r B), (2, sg_r M), (3, sg_r O), (4, sg_i (6 * (j : Int)))] [] h k n := by
  refine sg_aload_n (pc := 1169) (j := 1) dL_law_1169 rfl rfl ?_
  refine sg_aload_n (pc := 1170) (j := 0) dL_law_1170 rfl rfl ?_
  refine sg_iload (pc := 1171) dL_law_1171 rfl ?_
  refine sg_iconst (pc := 1173) (z := 1) dL_law_1173 (by decide) ?_
  first | refine sg_iaddB (pc := 1174) dL_law_1174 (by omega) (by omega) ?_ | refine sg_iadd (pc := 1174) dL_law_1174 ?_
  refine sg_iald (pc := 1175) dL_law_1175 hI.2.2.2.2.2.2.2.2.2 rfl (by omega) (jk_x (by omega) (by omega)) ?_
  refine sg_aload_n (pc := 1176) (j := 0) dL_law_1176 rfl rfl ?_
  refine sg_iload (pc := 1177) dL_law_1177 rfl ?_
  refine sg_iconst (pc := 1179) (z := 2) dL_law_1179 (by decide) ?_
  first | refine sg_iaddB (pc := 1180) dL_law_1180 (by omega) (by omega) ?_ | refine sg_iadd (pc := 1180) dL_law_1180 ?_
  refine sg_iald (pc := 1181) dL_law_1181 hI.2.2.2.2.2.2.2.2.2 rfl (by omega) (jk_x (by omega) (by omega)) ?_
  refine sg_if_eq (pc := 1182) (tgt := 1189) dL_law_1182 (by decide) (fun c1182 => ?_) (fun c1182 => ?_)
  · refine sg_iconst (pc := 1189) (z := 0) dL_law_1189 (by decide) ?_
    refine sg_aload_n (pc := 1190) (j := 3) dL_law_1190 rfl rfl ?_
    refine st_cS4 (pc := 1191) (d' := d - 1) (mc' := 8) (ms' := 48) g dL_law_1191 cb_L_upper cw_L_upper ml_L_274 ms_L_upper (Nat.le_of_ble_eq_true rfl) (by first | exact jl_d0 hd rfl | omega) (by first | exact Nat.le_of_ble_eq_true rfl | omega) (by first | exact Nat.le_of_ble_eq_true rfl | omega) ?_
    refine s_L_upper g nc (by omega) hI (fun v1 h1 I1 X1 k1 o1 => sg_K1 ?_)
    refine sg_istore (pc := 1194) dL_law_1194 (by decide) ?_
    refine sg_aload_n (pc := 1196) (j := 2) dL_law_1196 rfl rfl ?_
    refine sg_aload_n (pc := 1197) (j := 0) dL_law_1197 rfl rfl ?_
    refine sg_iload (pc := 1198) dL_law_1198 rfl ?_
    refine sg_iconst (pc := 1200) (z := 1) dL_law_1200 (by decide) ?_
    first | refine sg_iaddB (pc := 1201) dL_law_1201 (by omega) (by omega) ?_ | refine sg_iadd (pc := 1201) dL_law_1201 ?_
    refine sg_iald (pc := 1202) dL_law_1202 I1.2.2.2.2.2.2.2.2.2 rfl (by omega) (jk_x (by omega) (by omega)) ?_
    refine sg_aload_n (pc := 1203) (j := 0) dL_law_1203 rfl rfl ?_
    refine sg_iload (pc := 1204) dL_law_1204 rfl ?_
    refine sg_iconst (pc := 1206) (z := 2) dL_law_1206 (by decide) ?_
    first | refine sg_iaddB (pc := 1207) dL_law_1207 (by omega) (by omega) ?_ | refine sg_iadd (pc := 1207) dL_law_1207 ?_
    refine sg_iald (pc := 1208) dL_law_1208 I1.2.2.2.2.2.2.2.2.2 rfl (by omega) (jk_x (by omega) (by omega)) ?_
    refine sg_if_eq (pc := 1209) (tgt := 1216) dL_law_1209 (by decide) (fun c1209 => ?_) (fun c1209 => ?_)
    · refine sg_iconst (pc := 1216) (z := 0) dL_law_1216 (by decide) ?_
      refine st_as (fun H r => jk_tgR (B := B) r) ?_
      have m2 := jk_Im I1
      refine sg_cE2 (pc := 1217) (d' := d - 1) (mc' := 0) (ms' := 0) 8 g dL_law_1217 cb_X7_upper ml_L_277 mn_X7_upper rfl mv_X7_upper (Nat.le_of_ble_eq_true rfl) (md_oc m2) (Nat.le_of_ble_eq_true rfl) (by first | exact jl_d0 hd rfl | omega) (by first | exact Nat.le_of_ble_eq_true rfl | omega) (by first | exact Nat.le_of_ble_eq_true rfl | omega) ?_
      refine s_X7_upper g (by first | exact jl_d1 hd rfl | omega) m2 (fun v2 h2 c2_0 c2_1 y2 => sg_K1 ?_)
      refine st_as (fun H r => jk_unR I1.1 r) ?_
      have I2 := jk_IM I1 y2
      have eo := jk_oM I1 y2
      refine sg_istore (pc := 1220) dL_law_1220 (by decide) ?_
      refine sg_goto (pc := 1222) (tgt := 2472) dL_law_1222 (by decide) ?_
      refine sg_lsub (lv' := [(0, _), (1, _), (2, _), (3, _), (4, _)]) ⟨rfl, rfl, rfl, rfl, rfl, trivial⟩ ?_
      exact K _ _ _ I2 (by omega) (by omega)
    · refine sg_iconst (pc := 1212) (z := 1) dL_law_1212 (by decide) ?_
      refine sg_goto (pc := 1213) (tgt := 1217) dL_law_1213 (by decide) ?_
      refine st_as (fun H r => jk_tgR (B := B) r) ?_
      have m3 := jk_Im I1
      refine sg_cE2 (pc := 1217) (d' := d - 1) (mc' := 0) (ms' := 0) 8 g dL_law_1217 cb_X7_upper ml_L_277 mn_X7_upper rfl mv_X7_upper (Nat.le_of_ble_eq_true rfl) (md_oc m3) (Nat.le_of_ble_eq_true rfl) (by first | exact jl_d0 hd rfl | omega) (by first | exact Nat.le_of_ble_eq_true rfl | omega) (by first | exact Nat.le_of_ble_eq_true rfl | omega) ?_
      refine s_X7_upper g (by first | exact jl_d1 hd rfl | omega) m3 (fun v3 h3 c3_0 c3_1 y3 => sg_K1 ?_)
      refine st_as (fun H r => jk_unR I1.1 r) ?_
      have I3 := jk_IM I1 y3
      have eo := jk_oM I1 y3
      refine sg_istore (pc := 1220) dL_law_1220 (by decide) ?_
      refine sg_goto (pc := 1222) (tgt := 2472) dL_law_1222 (by decide) ?_
      refine sg_lsub (lv' := [(0, _), (1, _), (2, _), (3, _), (4, _)]) ⟨rfl, rfl, rfl, rfl, rfl, trivial⟩ ?_
      exact K _ _ _ I3 (by omega) (by omega)
  · refine sg_iconst (pc := 1185) (z := 1) dL_law_1185 (by decide) ?_
    refine sg_goto (pc := 1186) (tgt := 1190) dL_law_1186 (by decide) ?_
    refine sg_aload_n (pc := 1190) (j := 3) dL_law_1190 rfl rfl ?_
    refine st_cS4 (pc := 1191) (d' := d - 1) (mc' := 8) (ms' := 48) g dL_law_1191 cb_L_upper cw_L_upper ml_L_274 ms_L_upper (Nat.le_of_ble_eq_true rfl) (by first | exact jl_d0 hd rfl | omega) (by first | exact Nat.le_of_ble_eq_true rfl | omega) (by first | exact Nat.le_of_ble_eq_true rfl | omega) ?_
    refine s_L_upper g nc (by omega) hI (fun v4 h4 I4 X4 k4 o4 => sg_K1 ?_)
    refine sg_istore (pc := 1194) dL_law_1194 (by decide) ?_
    refine sg_aload_n (pc := 1196) (j := 2) dL_law_1196 rfl rfl ?_
    refine sg_aload_n (pc := 1197) (j := 0) dL_law_1197 rfl rfl ?_
    refine sg_iload (pc := 1198) dL_law_1198 rfl ?_
    refine sg_iconst (pc := 1200) (z := 1) dL_law_1200 (by decide) ?_
    first | refine sg_iaddB (pc := 1201) dL_law_1201 (by omega) (by omega) ?_ | refine sg_iadd (pc := 1201) dL_law_1201 ?_
    refine sg_iald (pc := 1202) dL_law_1202 I4.2.2.2.2.2.2.2.2.2 rfl (by omega) (jk_x (by omega) (by omega)) ?_
    refine sg_aload_n (pc := 1203) (j := 0) dL_law_1203 rfl rfl ?_
    refine sg_iload (pc := 1204) dL_law_1204 rfl ?_
    refine sg_iconst (pc := 1206) (z := 2) dL_law_1206 (by decide) ?_
    first | refine sg_iaddB (pc := 1207) dL_law_1207 (by omega) (by omega) ?_ | refine sg_iadd (pc := 1207) dL_law_1207 ?_
    refine sg_iald (pc := 1208) dL_law_1208 I4.2.2.2.2.2.2.2.2.2 rfl (by omega) (jk_x (by omega) (by omega)) ?_
    refine sg_if_eq (pc := 1209) (tgt := 1216) dL_law_1209 (by decide) (fun c1209 => ?_) (fun c1209 => ?_)
    · refine sg_iconst (pc := 1216) (z := 0) dL_law_1216 (by decide) ?_
      refine st_as (fun H r => jk_tgR (B := B) r) ?_
      have m5 := jk_Im I4
      refine sg_cE2 (pc := 1217) (d' := d - 1) (mc' := 0) (ms' := 0) 8 g dL_law_1217 cb_X7_upper ml_L_277 mn_X7_upper rfl mv_X7_upper (Nat.le_of_ble_eq_true rfl) (md_oc m5) (Nat.le_of_ble_eq_true rfl) (by first | exact jl_d0 hd rfl | omega) (by first | exact Nat.le_of_ble_eq_true rfl | omega) (by first | exact Nat.le_of_ble_eq_true rfl | omega) ?_
      refine s_X7_upper g (by first | exact jl_d1 hd rfl | omega) m5 (fun v5 h5 c5_0 c5_1 y5 => sg_K1 ?_)
      refine st_as (fun H r => jk_unR I4.1 r) ?_
      have I5 := jk_IM I4 y5
      have eo := jk_oM I4 y5
      refine sg_istore (pc := 1220) dL_law_1220 (by decide) ?_
      refine sg_goto (pc := 1222) (tgt := 2472) dL_law_1222 (by decide) ?_
      refine sg_lsub (lv' := [(0, _), (1, _), (2, _), (3, _), (4, _)]) ⟨rfl, rfl, rfl, rfl, rfl, trivial⟩ ?_
      exact K _ _ _ I5 (by omega) (by omega)
    · refine sg_iconst (pc := 1212) (z := 1) dL_law_1212 (by decide) ?_
      refine sg_goto (pc := 1213) (tgt := 1217) dL_law_1213 (by decide) ?_
      refine st_as (fun H r => jk_tgR (B := B) r) ?_
      have m6 := jk_Im I4
      refine sg_cE2 (pc := 1217) (d' := d - 1) (mc' := 0) (ms' := 0) 8 g dL_law_1217 cb_X7_upper ml_L_277 mn_X7_upper rfl mv_X7_upper (Nat.le_of_ble_eq_true rfl) (md_oc m6) (Nat.le_of_ble_eq_true rfl) (by first | exact jl_d0 hd rfl | omega) (by first | exact Nat.le_of_ble_eq_true rfl | omega) (by first | exact Nat.le_of_ble_eq_true rfl | omega) ?_
      refine s_X7_upper g (by first | exact jl_d1 hd rfl | omega) m6 (fun v6 h6 c6_0 c6_1 y6 => sg_K1 ?_)
      refine st_as (fun H r => jk_unR I4.1 r) ?_
      have I6 := jk_IM I4 y6
      have eo := jk_oM I4 y6
      refine sg_istore (pc := 1220) dL_law_1220 (by decide) ?_
      refine sg_goto (pc := 1222) (tgt := 2472) dL_law_1222 (by decide) ?_
      refine sg_lsub (lv' := [(0, _), (1, _), (2, _), (3, _), (4, _)]) ⟨rfl, rfl, rfl, rfl, rfl, trivial⟩ ?_
      exact K _ _ _ I6 (by omega) (by omega)

set_option maxRecDepth 100000 in
set_option maxHeartbeats 1000000 in
theorem lw_c25 {w : sg_W} {Q : sg_O → sg_H → Prop} {h : sg_H} (g : sg_G w) (nc : jk_C w) (hJ : jz w) {d mc ms : Nat} (hd : 30 ≤ d) {B M O S j k n : Nat} {xs : List Int} (hI : jk_I w B M O S xs h) (hj : 6 * j + 6 ≤ xs.length) (hl : xs.length ≤ 3072) (hk : k + 1030 ≤ mc) (hn : n + (48 + 0) ≤ ms) (K : ∀ (h' : sg_H) (k' n' : Nat), jk_I w B M O S xs h' → k' ≤ k + 1030 → n' ≤ n + (48 + 0) → sg_R w mi_L_law d mc ms Q 2472 [(0, sg_r S), (1, sg_r B), (2, sg_r M), (3, sg_r O), (4, sg_i (6 * (j : Int)))] [] h' k' n') : sg_R w mi_L_law d mc ms Q 1225 [(0, sg_r S), (1, sg_r B), (2, sg_r M), (3, sg_r O), (4, sg_i (6 * (j : Int)))] [] h k n := by
  refine sg_aload_n (pc := 1225) (j := 1) dL_law_1225 rfl rfl ?_
  refine sg_aload_n (pc := 1226) (j := 0) dL_law_1226 rfl rfl ?_
  refine sg_iload (pc := 1227) dL_law_1227 rfl ?_
  refine sg_iconst (pc := 1229) (z := 1) dL_law_1229 (by decide) ?_
  first | refine sg_iaddB (pc := 1230) dL_law_1230 (by omega) (by omega) ?_ | refine sg_iadd (pc := 1230) dL_law_1230 ?_
  refine sg_iald (pc := 1231) dL_law_1231 hI.2.2.2.2.2.2.2.2.2 rfl (by omega) (jk_x (by omega) (by omega)) ?_
  refine sg_aload_n (pc := 1232) (j := 0) dL_law_1232 rfl rfl ?_
  refine sg_iload (pc := 1233) dL_law_1233 rfl ?_
  refine sg_iconst (pc := 1235) (z := 2) dL_law_1235 (by decide) ?_
  first | refine sg_iaddB (pc := 1236) dL_law_1236 (by omega) (by omega) ?_ | refine sg_iadd (pc := 1236) dL_law_1236 ?_
  refine sg_iald (pc := 1237) dL_law_1237 hI.2.2.2.2.2.2.2.2.2 rfl (by omega) (jk_x (by omega) (by omega)) ?_
  refine sg_if_eq (pc := 1238) (tgt := 1245) dL_law_1238 (by decide) (fun c1238 => ?_) (fun c1238 => ?_)
  · refine sg_iconst (pc := 1245) (z := 0) dL_law_1245 (by decide) ?_
    refine sg_aload_n (pc := 1246) (j := 3) dL_law_1246 rfl rfl ?_
    refine st_cS4 (pc := 1247) (d' := d - 1) (mc' := 8) (ms' := 48) g dL_law_1247 cb_L_lower cw_L_lower ml_L_278 ms_L_lower (Nat.le_of_ble_eq_true rfl) (by first | exact jl_d0 hd rfl | omega) (by first | exact Nat.le_of_ble_eq_true rfl | omega) (by first | exact Nat.le_of_ble_eq_true rfl | omega) ?_
    refine s_L_lower g nc (by omega) hI (fun v1 h1 I1 X1 k1 o1 => sg_K1 ?_)
    refine sg_istore (pc := 1250) dL_law_1250 (by decide) ?_
    refine sg_aload_n (pc := 1252) (j := 2) dL_law_1252 rfl rfl ?_
    refine sg_aload_n (pc := 1253) (j := 0) dL_law_1253 rfl rfl ?_
    refine sg_iload (pc := 1254) dL_law_1254 rfl ?_
    refine sg_iconst (pc := 1256) (z := 1) dL_law_1256 (by decide) ?_
    first | refine sg_iaddB (pc := 1257) dL_law_1257 (by omega) (by omega) ?_ | refine sg_iadd (pc := 1257) dL_law_1257 ?_
    refine sg_iald (pc := 1258) dL_law_1258 I1.2.2.2.2.2.2.2.2.2 rfl (by omega) (jk_x (by omega) (by omega)) ?_
    refine sg_aload_n (pc := 1259) (j := 0) dL_law_1259 rfl rfl ?_
    refine sg_iload (pc := 1260) dL_law_1260 rfl ?_
    refine sg_iconst (pc := 1262) (z := 2) dL_law_1262 (by decide) ?_
    first | refine sg_iaddB (pc := 1263) dL_law_1263 (by omega) (by omega) ?_ | refine sg_iadd (pc := 1263) dL_law_1263 ?_
    refine sg_iald (pc := 1264) dL_law_1264 I1.2.2.2.2.2.2.2.2.2 rfl (by omega) (jk_x (by omega) (by omega)) ?_
    refine sg_if_eq (pc := 1265) (tgt := 1272) dL_law_1265 (by decide) (fun c1265 => ?_) (fun c1265 => ?_)
    · refine sg_iconst (pc := 1272) (z := 0) dL_law_1272 (by decide) ?_
      refine st_as (fun H r => jk_tgR (B := B) r) ?_
      have m2 := jk_Im I1
      refine sg_cE2 (pc := 1273) (d' := d - 1) (mc' := 0) (ms' := 0) 8 g dL_law_1273 cb_X7_lower ml_L_280 mn_X7_lower rfl mv_X7_lower (Nat.le_of_ble_eq_true rfl) (md_oc m2) (Nat.le_of_ble_eq_true rfl) (by first | exact jl_d0 hd rfl | omega) (by first | exact Nat.le_of_ble_eq_true rfl | omega) (by first | exact Nat.le_of_ble_eq_true rfl | omega) ?_
      refine s_X7_lower g (by first | exact jl_d1 hd rfl | omega) m2 (fun v2 h2 c2_0 c2_1 y2 => sg_K1 ?_)
      refine st_as (fun H r => jk_unR I1.1 r) ?_
      have I2 := jk_IM I1 y2
      have eo := jk_oM I1 y2
      refine sg_istore (pc := 1276) dL_law_1276 (by decide) ?_
      refine sg_goto (pc := 1278) (tgt := 2472) dL_law_1278 (by decide) ?_
      refine sg_lsub (lv' := [(0, _), (1, _), (2, _), (3, _), (4, _)]) ⟨rfl, rfl, rfl, rfl, rfl, trivial⟩ ?_
      exact K _ _ _ I2 (by omega) (by omega)
    · refine sg_iconst (pc := 1268) (z := 1) dL_law_1268 (by decide) ?_
      refine sg_goto (pc := 1269) (tgt := 1273) dL_law_1269 (by decide) ?_
      refine st_as (fun H r => jk_tgR (B := B) r) ?_
      have m3 := jk_Im I1
      refine sg_cE2 (pc := 1273) (d' := d - 1) (mc' := 0) (ms' := 0) 8 g dL_law_1273 cb_X7_lower ml_L_280 mn_X7_lower rfl mv_X7_lower (Nat.le_of_ble_eq_true rfl) (md_oc m3) (Nat.le_of_ble_eq_true rfl) (by first | exact jl_d0 hd rfl | omega) (by first | exact Nat.le_of_ble_eq_true rfl | omega) (by first | exact Nat.le_of_ble_eq_true rfl | omega) ?_
      refine s_X7_lower g (by first | exact jl_d1 hd rfl | omega) m3 (fun v3 h3 c3_0 c3_1 y3 => sg_K1 ?_)
      refine st_as (fun H r => jk_unR I1.1 r) ?_
      have I3 := jk_IM I1 y3
      have eo := jk_oM I1 y3
      refine sg_istore (pc := 1276) dL_law_1276 (by decide) ?_
      refine sg_goto (pc := 1278) (tgt := 2472) dL_law_1278 (by decide) ?_
      refine sg_lsub (lv' := [(0, _), (1, _), (2, _), (3, _), (4, _)]) ⟨rfl, rfl, rfl, rfl, rfl, trivial⟩ ?_
      exact K _ _ _ I3 (by omega) (by omega)
  · refine sg_iconst (pc := 1241) (z := 1) dL_law_1241 (by decide) ?_
    refine sg_goto (pc := 1242) (tgt := 1246) dL_law_1242 (by decide) ?_
    refine sg_aload_n (pc := 1246) (j := 3) dL_law_1246 rfl rfl ?_
    refine st_cS4 (pc := 1247) (d' := d - 1) (mc' := 8) (ms' := 48) g dL_law_1247 cb_L_lower cw_L_lower ml_L_278 ms_L_lower (Nat.le_of_ble_eq_true rfl) (by first | exact jl_d0 hd rfl | omega) (by first | exact Nat.le_of_ble_eq_true rfl | omega) (by first | exact Nat.le_of_ble_eq_true rfl | omega) ?_
    refine s_L_lower g nc (by omega) hI (fun v4 h4 I4 X4 k4 o4 => sg_K1 ?_)
    refine sg_istore (pc := 1250) dL_law_1250 (by decide) ?_
    refine sg_aload_n (pc := 1252) (j := 2) dL_law_1252 rfl rfl ?_
    refine sg_aload_n (pc := 1253) (j := 0) dL_law_1253 rfl rfl ?_
    refine sg_iload (pc := 1254) dL_law_1254 rfl ?_
    refine sg_iconst (pc := 1256) (z := 1) dL_law_1256 (by decide) ?_
    first | refine sg_iaddB (pc := 1257) dL_law_1257 (by omega) (by omega) ?_ | refine sg_iadd (pc := 1257) dL_law_1257 ?_
    refine sg_iald (pc := 1258) dL_law_1258 I4.2.2.2.2.2.2.2.2.2 rfl (by omega) (jk_x (by omega) (by omega)) ?_
    refine sg_aload_n (pc := 1259) (j := 0) dL_law_1259 rfl rfl ?_
    refine sg_iload (pc := 1260) dL_law_1260 rfl ?_
    refine sg_iconst (pc := 1262) (z := 2) dL_law_1262 (by decide) ?_
    first | refine sg_iaddB (pc := 1263) dL_law_1263 (by omega) (by omega) ?_ | refine sg_iadd (pc := 1263) dL_law_1263 ?_
    refine sg_iald (pc := 1264) dL_law_1264 I4.2.2.2.2.2.2.2.2.2 rfl (by omega) (jk_x (by omega) (by omega)) ?_
    refine sg_if_eq (pc := 1265) (tgt := 1272) dL_law_1265 (by decide) (fun c1265 => ?_) (fun c1265 => ?_)
    · refine sg_iconst (pc := 1272) (z := 0) dL_law_1272 (by decide) ?_
      refine st_as (fun H r => jk_tgR (B := B) r) ?_
      have m5 := jk_Im I4
      refine sg_cE2 (pc := 1273) (d' := d - 1) (mc' := 0) (ms' := 0) 8 g dL_law_1273 cb_X7_lower ml_L_280 mn_X7_lower rfl mv_X7_lower (Nat.le_of_ble_eq_true rfl) (md_oc m5) (Nat.le_of_ble_eq_true rfl) (by first | exact jl_d0 hd rfl | omega) (by first | exact Nat.le_of_ble_eq_true rfl | omega) (by first | exact Nat.le_of_ble_eq_true rfl | omega) ?_
      refine s_X7_lower g (by first | exact jl_d1 hd rfl | omega) m5 (fun v5 h5 c5_0 c5_1 y5 => sg_K1 ?_)
      refine st_as (fun H r => jk_unR I4.1 r) ?_
      have I5 := jk_IM I4 y5
      have eo := jk_oM I4 y5
      refine sg_istore (pc := 1276) dL_law_1276 (by decide) ?_
      refine sg_goto (pc := 1278) (tgt := 2472) dL_law_1278 (by decide) ?_
      refine sg_lsub (lv' := [(0, _), (1, _), (2, _), (3, _), (4, _)]) ⟨rfl, rfl, rfl, rfl, rfl, trivial⟩ ?_
      exact K _ _ _ I5 (by omega) (by omega)
    · refine sg_iconst (pc := 1268) (z := 1) dL_law_1268 (by decide) ?_
      refine sg_goto (pc := 1269) (tgt := 1273) dL_law_1269 (by decide) ?_
      refine st_as (fun H r => jk_tgR (B := B) r) ?_
      have m6 := jk_Im I4
      refine sg_cE2 (pc := 1273) (d' := d - 1) (mc' := 0) (ms' := 0) 8 g dL_law_1273 cb_X7_lower ml_L_280 mn_X7_lower rfl mv_X7_lower (Nat.le_of_ble_eq_true rfl) (md_oc m6) (Nat.le_of_ble_eq_true rfl) (by first | exact jl_d0 hd rfl | omega) (by first | exact Nat.le_of_ble_eq_true rfl | omega) (by first | exact Nat.le_of_ble_eq_true rfl | omega) ?_
      refine s_X7_lower g (by first | exact jl_d1 hd rfl | omega) m6 (fun v6 h6 c6_0 c6_1 y6 => sg_K1 ?_)
      refine st_as (fun H r => jk_unR I4.1 r) ?_
      have I6 := jk_IM I4 y6
      have eo := jk_oM I4 y6
      refine sg_istore (pc := 1276) dL_law_1276 (by decide) ?_
      refine sg_goto (pc := 1278) (tgt := 2472) dL_law_1278 (by decide) ?_
      refine sg_lsub (lv' := [(0, _), (1, _), (2, _), (3, _), (4, _)]) ⟨rfl, rfl, rfl, rfl, rfl, trivial⟩ ?_
      exact K _ _ _ I6 (by omega) (by omega)

set_option maxRecDepth 100000 in
set_option maxHeartbeats 1000000 in
theorem lw_c26 {w : sg_W} {Q : sg_O → sg_H → Prop} {h : sg_H} (g : sg_G w) (nc : jk_C w) (hJ : jz w) {d mc ms : Nat} (hd : 30 ≤ d) {B M O S j k n : Nat} {xs : List Int} (hI : jk_I w B M O S xs h) (hj : 6 * j + 6 ≤ xs.length) (hl : xs.length ≤ 3072) (hk : k + 1030 ≤ mc) (hn : n + (48 + 0) ≤ ms) (K : ∀ (h' : sg_H) (k' n' : Nat), jk_I w B M O S xs h' → k' ≤ k + 1030 → n' ≤ n + (48 + 0) → sg_R w mi_L_law d mc ms Q 2472 [(0, sg_r S), (1, sg_r B), (2, sg_r M), (3, sg_r O), (4, sg_i (6 * (j : Int)))] [] h' k' n') : sg_R w mi_L_law d mc ms Q 1281 [(0, sg_r S), (1, sg_r B), (2, sg_r M), (3, sg_r O), (4, sg_i (6 * (j : Int)))] [] h k n := by
  refine sg_aload_n (pc := 1281) (j := 1) dL_law_1281 rfl rfl ?_
  refine sg_aload_n (pc := 1282) (j := 0) dL_law_1282 rfl rfl ?_
  refine sg_iload (pc := 1283) dL_law_1283 rfl ?_
  refine sg_iconst (pc := 1285) (z := 1) dL_law_1285 (by decide) ?_
  first | refine sg_iaddB (pc := 1286) dL_law_1286 (by omega) (by omega) ?_ | refine sg_iadd (pc := 1286) dL_law_1286 ?_
  refine sg_iald (pc := 1287) dL_law_1287 hI.2.2.2.2.2.2.2.2.2 rfl (by omega) (jk_x (by omega) (by omega)) ?_
  refine sg_aload_n (pc := 1288) (j := 0) dL_law_1288 rfl rfl ?_
  refine sg_iload (pc := 1289) dL_law_1289 rfl ?_
  refine sg_iconst (pc := 1291) (z := 2) dL_law_1291 (by decide) ?_
  first | refine sg_iaddB (pc := 1292) dL_law_1292 (by omega) (by omega) ?_ | refine sg_iadd (pc := 1292) dL_law_1292 ?_
  refine sg_iald (pc := 1293) dL_law_1293 hI.2.2.2.2.2.2.2.2.2 rfl (by omega) (jk_x (by omega) (by omega)) ?_
  refine sg_if_eq (pc := 1294) (tgt := 1301) dL_law_1294 (by decide) (fun c1294 => ?_) (fun c1294 => ?_)
  · refine sg_iconst (pc := 1301) (z := 0) dL_law_1301 (by decide) ?_
    refine sg_aload_n (pc := 1302) (j := 3) dL_law_1302 rfl rfl ?_
    refine st_cS4 (pc := 1303) (d' := d - 1) (mc' := 8) (ms' := 48) g dL_law_1303 cb_L_value cw_L_value ml_L_281 ms_L_value (Nat.le_of_ble_eq_true rfl) (by first | exact jl_d0 hd rfl | omega) (by first | exact Nat.le_of_ble_eq_true rfl | omega) (by first | exact Nat.le_of_ble_eq_true rfl | omega) ?_
    refine s_L_value g nc (by omega) hI (fun v1 h1 I1 X1 k1 o1 => sg_K1 ?_)
    refine sg_istore (pc := 1306) dL_law_1306 (by decide) ?_
    refine sg_aload_n (pc := 1308) (j := 2) dL_law_1308 rfl rfl ?_
    refine sg_aload_n (pc := 1309) (j := 0) dL_law_1309 rfl rfl ?_
    refine sg_iload (pc := 1310) dL_law_1310 rfl ?_
    refine sg_iconst (pc := 1312) (z := 1) dL_law_1312 (by decide) ?_
    first | refine sg_iaddB (pc := 1313) dL_law_1313 (by omega) (by omega) ?_ | refine sg_iadd (pc := 1313) dL_law_1313 ?_
    refine sg_iald (pc := 1314) dL_law_1314 I1.2.2.2.2.2.2.2.2.2 rfl (by omega) (jk_x (by omega) (by omega)) ?_
    refine sg_aload_n (pc := 1315) (j := 0) dL_law_1315 rfl rfl ?_
    refine sg_iload (pc := 1316) dL_law_1316 rfl ?_
    refine sg_iconst (pc := 1318) (z := 2) dL_law_1318 (by decide) ?_
    first | refine sg_iaddB (pc := 1319) dL_law_1319 (by omega) (by omega) ?_ | refine sg_iadd (pc := 1319) dL_law_1319 ?_
    refine sg_iald (pc := 1320) dL_law_1320 I1.2.2.2.2.2.2.2.2.2 rfl (by omega) (jk_x (by omega) (by omega)) ?_
    refine sg_if_eq (pc := 1321) (tgt := 1328) dL_law_1321 (by decide) (fun c1321 => ?_) (fun c1321 => ?_)
    · refine sg_iconst (pc := 1328) (z := 0) dL_law_1328 (by decide) ?_
      refine st_as (fun H r => jk_tgR (B := B) r) ?_
      have m2 := jk_Im I1
      refine sg_cE2 (pc := 1329) (d' := d - 1) (mc' := 0) (ms' := 0) 8 g dL_law_1329 cb_X7_value ml_L_283 mn_X7_value rfl mv_X7_value (Nat.le_of_ble_eq_true rfl) (md_oc m2) (Nat.le_of_ble_eq_true rfl) (by first | exact jl_d0 hd rfl | omega) (by first | exact Nat.le_of_ble_eq_true rfl | omega) (by first | exact Nat.le_of_ble_eq_true rfl | omega) ?_
      refine s_X7_value g (by first | exact jl_d1 hd rfl | omega) m2 (fun v2 h2 c2_0 c2_1 y2 => sg_K1 ?_)
      refine st_as (fun H r => jk_unR I1.1 r) ?_
      have I2 := jk_IM I1 y2
      have eo := jk_oM I1 y2
      refine sg_istore (pc := 1332) dL_law_1332 (by decide) ?_
      refine sg_goto (pc := 1334) (tgt := 2472) dL_law_1334 (by decide) ?_
      refine sg_lsub (lv' := [(0, _), (1, _), (2, _), (3, _), (4, _)]) ⟨rfl, rfl, rfl, rfl, rfl, trivial⟩ ?_
      exact K _ _ _ I2 (by omega) (by omega)
    · refine sg_iconst (pc := 1324) (z := 1) dL_law_1324 (by decide) ?_
      refine sg_goto (pc := 1325) (tgt := 1329) dL_law_1325 (by decide) ?_
      refine st_as (fun H r => jk_tgR (B := B) r) ?_
      have m3 := jk_Im I1
      refine sg_cE2 (pc := 1329) (d' := d - 1) (mc' := 0) (ms' := 0) 8 g dL_law_1329 cb_X7_value ml_L_283 mn_X7_value rfl mv_X7_value (Nat.le_of_ble_eq_true rfl) (md_oc m3) (Nat.le_of_ble_eq_true rfl) (by first | exact jl_d0 hd rfl | omega) (by first | exact Nat.le_of_ble_eq_true rfl | omega) (by first | exact Nat.le_of_ble_eq_true rfl | omega) ?_
      refine s_X7_value g (by first | exact jl_d1 hd rfl | omega) m3 (fun v3 h3 c3_0 c3_1 y3 => sg_K1 ?_)
      refine st_as (fun H r => jk_unR I1.1 r) ?_
      have I3 := jk_IM I1 y3
      have eo := jk_oM I1 y3
      refine sg_istore (pc := 1332) dL_law_1332 (by decide) ?_
      refine sg_goto (pc := 1334) (tgt := 2472) dL_law_1334 (by decide) ?_
      refine sg_lsub (lv' := [(0, _), (1, _), (2, _), (3, _), (4, _)]) ⟨rfl, rfl, rfl, rfl, rfl, trivial⟩ ?_
      exact K _ _ _ I3 (by omega) (by omega)
  · refine sg_iconst (pc := 1297) (z := 1) dL_law_1297 (by decide) ?_
    refine sg_goto (pc := 1298) (tgt := 1302) dL_law_1298 (by decide) ?_
    refine sg_aload_n (pc := 1302) (j := 3) dL_law_1302 rfl rfl ?_
    refine st_cS4 (pc := 1303) (d' := d - 1) (mc' := 8) (ms' := 48) g dL_law_1303 cb_L_value cw_L_value ml_L_281 ms_L_value (Nat.le_of_ble_eq_true rfl) (by first | exact jl_d0 hd rfl | omega) (by first | exact Nat.le_of_ble_eq_true rfl | omega) (by first | exact Nat.le_of_ble_eq_true rfl | omega) ?_
    refine s_L_value g nc (by omega) hI (fun v4 h4 I4 X4 k4 o4 => sg_K1 ?_)
    refine sg_istore (pc := 1306) dL_law_1306 (by decide) ?_
    refine sg_aload_n (pc := 1308) (j := 2) dL_law_1308 rfl rfl ?_
    refine sg_aload_n (pc := 1309) (j := 0) dL_law_1309 rfl rfl ?_
    refine sg_iload (pc := 1310) dL_law_1310 rfl ?_
    refine sg_iconst (pc := 1312) (z := 1) dL_law_1312 (by decide) ?_
    first | refine sg_iaddB (pc := 1313) dL_law_1313 (by omega) (by omega) ?_ | refine sg_iadd (pc := 1313) dL_law_1313 ?_
    refine sg_iald (pc := 1314) dL_law_1314 I4.2.2.2.2.2.2.2.2.2 rfl (by omega) (jk_x (by omega) (by omega)) ?_
    refine sg_aload_n (pc := 1315) (j := 0) dL_law_1315 rfl rfl ?_
    refine sg_iload (pc := 1316) dL_law_1316 rfl ?_
    refine sg_iconst (pc := 1318) (z := 2) dL_law_1318 (by decide) ?_
    first | refine sg_iaddB (pc := 1319) dL_law_1319 (by omega) (by omega) ?_ | refine sg_iadd (pc := 1319) dL_law_1319 ?_
    refine sg_iald (pc := 1320) dL_law_1320 I4.2.2.2.2.2.2.2.2.2 rfl (by omega) (jk_x (by omega) (by omega)) ?_
    refine sg_if_eq (pc := 1321) (tgt := 1328) dL_law_1321 (by decide) (fun c1321 => ?_) (fun c1321 => ?_)
    · refine sg_iconst (pc := 1328) (z := 0) dL_law_1328 (by decide) ?_
      refine st_as (fun H r => jk_tgR (B := B) r) ?_
      have m5 := jk_Im I4
      refine sg_cE2 (pc := 1329) (d' := d - 1) (mc' := 0) (ms' := 0) 8 g dL_law_1329 cb_X7_value ml_L_283 mn_X7_value rfl mv_X7_value (Nat.le_of_ble_eq_true rfl) (md_oc m5) (Nat.le_of_ble_eq_true rfl) (by first | exact jl_d0 hd rfl | omega) (by first | exact Nat.le_of_ble_eq_true rfl | omega) (by first | exact Nat.le_of_ble_eq_true rfl | omega) ?_
      refine s_X7_value g (by first | exact jl_d1 hd rfl | omega) m5 (fun v5 h5 c5_0 c5_1 y5 => sg_K1 ?_)
      refine st_as (fun H r => jk_unR I4.1 r) ?_
      have I5 := jk_IM I4 y5
      have eo := jk_oM I4 y5
      refine sg_istore (pc := 1332) dL_law_1332 (by decide) ?_
      refine sg_goto (pc := 1334) (tgt := 2472) dL_law_1334 (by decide) ?_
      refine sg_lsub (lv' := [(0, _), (1, _), (2, _), (3, _), (4, _)]) ⟨rfl, rfl, rfl, rfl, rfl, trivial⟩ ?_
      exact K _ _ _ I5 (by omega) (by omega)
    · refine sg_iconst (pc := 1324) (z := 1) dL_law_1324 (by decide) ?_
      refine sg_goto (pc := 1325) (tgt := 1329) dL_law_1325 (by decide) ?_
      refine st_as (fun H r => jk_tgR (B := B) r) ?_
      have m6 := jk_Im I4
      refine sg_cE2 (pc := 1329) (d' := d - 1) (mc' := 0) (ms' := 0) 8 g dL_law_1329 cb_X7_value ml_L_283 mn_X7_value rfl mv_X7_value (Nat.le_of_ble_eq_true rfl) (md_oc m6) (Nat.le_of_ble_eq_true rfl) (by first | exact jl_d0 hd rfl | omega) (by first | exact Nat.le_of_ble_eq_true rfl | omega) (by first | exact Nat.le_of_ble_eq_true rfl | omega) ?_
      refine s_X7_value g (by first | exact jl_d1 hd rfl | omega) m6 (fun v6 h6 c6_0 c6_1 y6 => sg_K1 ?_)
      refine st_as (fun H r => jk_unR I4.1 r) ?_
      have I6 := jk_IM I4 y6
      have eo := jk_oM I4 y6
      refine sg_istore (pc := 1332) dL_law_1332 (by decide) ?_
      refine sg_goto (pc := 1334) (tgt := 2472) dL_law_1334 (by decide) ?_
      refine sg_lsub (lv' := [(0, _), (1, _), (2, _), (3, _), (4, _)]) ⟨rfl, rfl, rfl, rfl, rfl, trivial⟩ ?_
      exact K _ _ _ I6 (by omega) (by omega)

set_option maxRecDepth 100000 in
set_option maxHeartbeats 1000000 in
theorem lw_c27 {w : sg_W} {Q : sg_O → sg_H → Prop} {h : sg_H} (g : sg_G w) (nc : jk_C w) (hJ : jz w) {d mc ms : Nat} (hd : 30 ≤ d) {B M O S j k n : Nat} {xs : List Int} (hI : jk_I w B M O S xs h) (hj : 6 * j + 6 ≤ xs.length) (hl : xs.length ≤ 3072) (hk : k + 1030 ≤ mc) (hn : n + (48 + 0) ≤ ms) (K : ∀ (h' : sg_H) (k' n' : Nat), jk_I w B M O S xs h' → k' ≤ k + 1030 → n' ≤ n + (48 + 0) → sg_R w mi_L_law d mc ms Q 2472 [(0, sg_r S), (1, sg_r B), (2, sg_r M), (3, sg_r O), (4, sg_i (6 * (j : Int)))] [] h' k' n') : sg_R w mi_L_law d mc ms Q 1337 [(0, sg_r S), (1, sg_r B), (2, sg_r M), (3, sg_r O), (4, sg_i (6 * (j : Int)))] [] h k n := by
  refine sg_aload_n (pc := 1337) (j := 1) dL_law_1337 rfl rfl ?_
  refine sg_aload_n (pc := 1338) (j := 0) dL_law_1338 rfl rfl ?_
  refine sg_iload (pc := 1339) dL_law_1339 rfl ?_
  refine sg_iconst (pc := 1341) (z := 1) dL_law_1341 (by decide) ?_
  first | refine sg_iaddB (pc := 1342) dL_law_1342 (by omega) (by omega) ?_ | refine sg_iadd (pc := 1342) dL_law_1342 ?_
  refine sg_iald (pc := 1343) dL_law_1343 hI.2.2.2.2.2.2.2.2.2 rfl (by omega) (jk_x (by omega) (by omega)) ?_
  refine sg_aload_n (pc := 1344) (j := 0) dL_law_1344 rfl rfl ?_
  refine sg_iload (pc := 1345) dL_law_1345 rfl ?_
  refine sg_iconst (pc := 1347) (z := 2) dL_law_1347 (by decide) ?_
  first | refine sg_iaddB (pc := 1348) dL_law_1348 (by omega) (by omega) ?_ | refine sg_iadd (pc := 1348) dL_law_1348 ?_
  refine sg_iald (pc := 1349) dL_law_1349 hI.2.2.2.2.2.2.2.2.2 rfl (by omega) (jk_x (by omega) (by omega)) ?_
  refine sg_aload_n (pc := 1350) (j := 0) dL_law_1350 rfl rfl ?_
  refine sg_iload (pc := 1351) dL_law_1351 rfl ?_
  refine sg_iconst (pc := 1353) (z := 3) dL_law_1353 (by decide) ?_
  first | refine sg_iaddB (pc := 1354) dL_law_1354 (by omega) (by omega) ?_ | refine sg_iadd (pc := 1354) dL_law_1354 ?_
  refine sg_iald (pc := 1355) dL_law_1355 hI.2.2.2.2.2.2.2.2.2 rfl (by omega) (jk_x (by omega) (by omega)) ?_
  refine sg_if_eq (pc := 1356) (tgt := 1363) dL_law_1356 (by decide) (fun c1356 => ?_) (fun c1356 => ?_)
  · refine sg_iconst (pc := 1363) (z := 0) dL_law_1363 (by decide) ?_
    refine sg_aload_n (pc := 1364) (j := 3) dL_law_1364 rfl rfl ?_
    refine st_cS5 (pc := 1365) (d' := d - 1) (mc' := 8) (ms' := 48) g dL_law_1365 cb_L_number cw_L_number ml_L_284 ms_L_number (Nat.le_of_ble_eq_true rfl) (by first | exact jl_d0 hd rfl | omega) (by first | exact Nat.le_of_ble_eq_true rfl | omega) (by first | exact Nat.le_of_ble_eq_true rfl | omega) ?_
    refine s_L_number g nc (by omega) hI (fun v1 h1 I1 X1 k1 o1 => sg_K1 ?_)
    refine sg_istore (pc := 1368) dL_law_1368 (by decide) ?_
    refine sg_aload_n (pc := 1370) (j := 2) dL_law_1370 rfl rfl ?_
    refine sg_aload_n (pc := 1371) (j := 0) dL_law_1371 rfl rfl ?_
    refine sg_iload (pc := 1372) dL_law_1372 rfl ?_
    refine sg_iconst (pc := 1374) (z := 1) dL_law_1374 (by decide) ?_
    first | refine sg_iaddB (pc := 1375) dL_law_1375 (by omega) (by omega) ?_ | refine sg_iadd (pc := 1375) dL_law_1375 ?_
    refine sg_iald (pc := 1376) dL_law_1376 I1.2.2.2.2.2.2.2.2.2 rfl (by omega) (jk_x (by omega) (by omega)) ?_
    refine sg_aload_n (pc := 1377) (j := 0) dL_law_1377 rfl rfl ?_
    refine sg_iload (pc := 1378) dL_law_1378 rfl ?_
    refine sg_iconst (pc := 1380) (z := 2) dL_law_1380 (by decide) ?_
    first | refine sg_iaddB (pc := 1381) dL_law_1381 (by omega) (by omega) ?_ | refine sg_iadd (pc := 1381) dL_law_1381 ?_
    refine sg_iald (pc := 1382) dL_law_1382 I1.2.2.2.2.2.2.2.2.2 rfl (by omega) (jk_x (by omega) (by omega)) ?_
    refine sg_aload_n (pc := 1383) (j := 0) dL_law_1383 rfl rfl ?_
    refine sg_iload (pc := 1384) dL_law_1384 rfl ?_
    refine sg_iconst (pc := 1386) (z := 3) dL_law_1386 (by decide) ?_
    first | refine sg_iaddB (pc := 1387) dL_law_1387 (by omega) (by omega) ?_ | refine sg_iadd (pc := 1387) dL_law_1387 ?_
    refine sg_iald (pc := 1388) dL_law_1388 I1.2.2.2.2.2.2.2.2.2 rfl (by omega) (jk_x (by omega) (by omega)) ?_
    refine sg_if_eq (pc := 1389) (tgt := 1396) dL_law_1389 (by decide) (fun c1389 => ?_) (fun c1389 => ?_)
    · refine sg_iconst (pc := 1396) (z := 0) dL_law_1396 (by decide) ?_
      refine st_as (fun H r => jk_tgR (B := B) r) ?_
      have m2 := jk_Im I1
      refine sg_cE3 (pc := 1397) (d' := d - 1) (mc' := 0) (ms' := 0) 8 g dL_law_1397 cb_X7_number ml_L_286 mn_X7_number rfl mv_X7_number (Nat.le_of_ble_eq_true rfl) (md_oc m2) (Nat.le_of_ble_eq_true rfl) (by first | exact jl_d0 hd rfl | omega) (by first | exact Nat.le_of_ble_eq_true rfl | omega) (by first | exact Nat.le_of_ble_eq_true rfl | omega) ?_
      refine s_X7_number g (by first | exact jl_d1 hd rfl | omega) m2 (fun v2 h2 c2_0 c2_1 y2 => sg_K1 ?_)
      refine st_as (fun H r => jk_unR I1.1 r) ?_
      have I2 := jk_IM I1 y2
      have eo := jk_oM I1 y2
      refine sg_istore (pc := 1400) dL_law_1400 (by decide) ?_
      refine sg_goto (pc := 1402) (tgt := 2472) dL_law_1402 (by decide) ?_
      refine sg_lsub (lv' := [(0, _), (1, _), (2, _), (3, _), (4, _)]) ⟨rfl, rfl, rfl, rfl, rfl, trivial⟩ ?_
      exact K _ _ _ I2 (by omega) (by omega)
    · refine sg_iconst (pc := 1392) (z := 1) dL_law_1392 (by decide) ?_
      refine sg_goto (pc := 1393) (tgt := 1397) dL_law_1393 (by decide) ?_
      refine st_as (fun H r => jk_tgR (B := B) r) ?_
      have m3 := jk_Im I1
      refine sg_cE3 (pc := 1397) (d' := d - 1) (mc' := 0) (ms' := 0) 8 g dL_law_1397 cb_X7_number ml_L_286 mn_X7_number rfl mv_X7_number (Nat.le_of_ble_eq_true rfl) (md_oc m3) (Nat.le_of_ble_eq_true rfl) (by first | exact jl_d0 hd rfl | omega) (by first | exact Nat.le_of_ble_eq_true rfl | omega) (by first | exact Nat.le_of_ble_eq_true rfl | omega) ?_
      refine s_X7_number g (by first | exact jl_d1 hd rfl | omega) m3 (fun v3 h3 c3_0 c3_1 y3 => sg_K1 ?_)
      refine st_as (fun H r => jk_unR I1.1 r) ?_
      have I3 := jk_IM I1 y3
      have eo := jk_oM I1 y3
      refine sg_istore (pc := 1400) dL_law_1400 (by decide) ?_
      refine sg_goto (pc := 1402) (tgt := 2472) dL_law_1402 (by decide) ?_
      refine sg_lsub (lv' := [(0, _), (1, _), (2, _), (3, _), (4, _)]) ⟨rfl, rfl, rfl, rfl, rfl, trivial⟩ ?_
      exact K _ _ _ I3 (by omega) (by omega)
  · refine sg_iconst (pc := 1359) (z := 1) dL_law_1359 (by decide) ?_
    refine sg_goto (pc := 1360) (tgt := 1364) dL_law_1360 (by decide) ?_
    refine sg_aload_n (pc := 1364) (j := 3) dL_law_1364 rfl rfl ?_
    refine st_cS5 (pc := 1365) (d' := d - 1) (mc' := 8) (ms' := 48) g dL_law_1365 cb_L_number cw_L_number ml_L_284 ms_L_number (Nat.le_of_ble_eq_true rfl) (by first | exact jl_d0 hd rfl | omega) (by first | exact Nat.le_of_ble_eq_true rfl | omega) (by first | exact Nat.le_of_ble_eq_true rfl | omega) ?_
    refine s_L_number g nc (by omega) hI (fun v4 h4 I4 X4 k4 o4 => sg_K1 ?_)
    refine sg_istore (pc := 1368) dL_law_1368 (by decide) ?_
    refine sg_aload_n (pc := 1370) (j := 2) dL_law_1370 rfl rfl ?_
    refine sg_aload_n (pc := 1371) (j := 0) dL_law_1371 rfl rfl ?_
    refine sg_iload (pc := 1372) dL_law_1372 rfl ?_
    refine sg_iconst (pc := 1374) (z := 1) dL_law_1374 (by decide) ?_
    first | refine sg_iaddB (pc := 1375) dL_law_1375 (by omega) (by omega) ?_ | refine sg_iadd (pc := 1375) dL_law_1375 ?_
    refine sg_iald (pc := 1376) dL_law_1376 I4.2.2.2.2.2.2.2.2.2 rfl (by omega) (jk_x (by omega) (by omega)) ?_
    refine sg_aload_n (pc := 1377) (j := 0) dL_law_1377 rfl rfl ?_
    refine sg_iload (pc := 1378) dL_law_1378 rfl ?_
    refine sg_iconst (pc := 1380) (z := 2) dL_law_1380 (by decide) ?_
    first | refine sg_iaddB (pc := 1381) dL_law_1381 (by omega) (by omega) ?_ | refine sg_iadd (pc := 1381) dL_law_1381 ?_
    refine sg_iald (pc := 1382) dL_law_1382 I4.2.2.2.2.2.2.2.2.2 rfl (by omega) (jk_x (by omega) (by omega)) ?_
    refine sg_aload_n (pc := 1383) (j := 0) dL_law_1383 rfl rfl ?_
    refine sg_iload (pc := 1384) dL_law_1384 rfl ?_
    refine sg_iconst (pc := 1386) (z := 3) dL_law_1386 (by decide) ?_
    first | refine sg_iaddB (pc := 1387) dL_law_1387 (by omega) (by omega) ?_ | refine sg_iadd (pc := 1387) dL_law_1387 ?_
    refine sg_iald (pc := 1388) dL_law_1388 I4.2.2.2.2.2.2.2.2.2 rfl (by omega) (jk_x (by omega) (by omega)) ?_
    refine sg_if_eq (pc := 1389) (tgt := 1396) dL_law_1389 (by decide) (fun c1389 => ?_) (fun c1389 => ?_)
    · refine sg_iconst (pc := 1396) (z := 0) dL_law_1396 (by decide) ?_
      refine st_as (fun H r => jk_tgR (B := B) r) ?_
      have m5 := jk_Im I4
      refine sg_cE3 (pc := 1397) (d' := d - 1) (mc' := 0) (ms' := 0) 8 g dL_law_1397 cb_X7_number ml_L_286 mn_X7_number rfl mv_X7_number (Nat.le_of_ble_eq_true rfl) (md_oc m5) (Nat.le_of_ble_eq_true rfl) (by first | exact jl_d0 hd rfl | omega) (by first | exact Nat.le_of_ble_eq_true rfl | omega) (by first | exact Nat.le_of_ble_eq_true rfl | omega) ?_
      refine s_X7_number g (by first | exact jl_d1 hd rfl | omega) m5 (fun v5 h5 c5_0 c5_1 y5 => sg_K1 ?_)
      refine st_as (fun H r => jk_unR I4.1 r) ?_
      have I5 := jk_IM I4 y5
      have eo := jk_oM I4 y5
      refine sg_istore (pc := 1400) dL_law_1400 (by decide) ?_
      refine sg_goto (pc := 1402) (tgt := 2472) dL_law_1402 (by decide) ?_
      refine sg_lsub (lv' := [(0, _), (1, _), (2, _), (3, _), (4, _)]) ⟨rfl, rfl, rfl, rfl, rfl, trivial⟩ ?_
      exact K _ _ _ I5 (by omega) (by omega)
    · refine sg_iconst (pc := 1392) (z := 1) dL_law_1392 (by decide) ?_
      refine sg_goto (pc := 1393) (tgt := 1397) dL_law_1393 (by decide) ?_
      refine st_as (fun H r => jk_tgR (B := B) r) ?_
      have m6 := jk_Im I4
      refine sg_cE3 (pc := 1397) (d' := d - 1) (mc' := 0) (ms' := 0) 8 g dL_law_1397 cb_X7_number ml_L_286 mn_X7_number rfl mv_X7_number (Nat.le_of_ble_eq_true rfl) (md_oc m6) (Nat.le_of_ble_eq_true rfl) (by first | exact jl_d0 hd rfl | omega) (by first | exact Nat.le_of_ble_eq_true rfl | omega) (by first | exact Nat.le_of_ble_eq_true rfl | omega) ?_
      refine s_X7_number g (by first | exact jl_d1 hd rfl | omega) m6 (fun v6 h6 c6_0 c6_1 y6 => sg_K1 ?_)
      refine st_as (fun H r => jk_unR I4.1 r) ?_
      have I6 := jk_IM I4 y6
      have eo := jk_oM I4 y6
      refine sg_istore (pc := 1400) dL_law_1400 (by decide) ?_
      refine sg_goto (pc := 1402) (tgt := 2472) dL_law_1402 (by decide) ?_
      refine sg_lsub (lv' := [(0, _), (1, _), (2, _), (3, _), (4, _)]) ⟨rfl, rfl, rfl, rfl, rfl, trivial⟩ ?_
      exact K _ _ _ I6 (by omega) (by omega)

set_option maxRecDepth 100000 in
set_option maxHeartbeats 1000000 in
theorem lw_c28 {w : sg_W} {Q : sg_O → sg_H → Prop} {h : sg_H} (g : sg_G w) (nc : jk_C w) (hJ : jz w) {d mc ms : Nat} (hd : 30 ≤ d) {B M O S j k n : Nat} {xs : List Int} (hI : jk_I w B M O S xs h) (hj : 6 * j + 6 ≤ xs.length) (hl : xs.length ≤ 3072) (hk : k + 1030 ≤ mc) (hn : n + (0 + 0) ≤ ms) (K : ∀ (h' : sg_H) (k' n' : Nat), jk_I w B M O S xs h' → k' ≤ k + 1030 → n' ≤ n + (0 + 0) → sg_R w mi_L_law d mc ms Q 2472 [(0, sg_r S), (1, sg_r B), (2, sg_r M), (3, sg_r O), (4, sg_i (6 * (j : Int)))] [] h' k' n') : sg_R w mi_L_law d mc ms Q 1405 [(0, sg_r S), (1, sg_r B), (2, sg_r M), (3, sg_r O), (4, sg_i (6 * (j : Int)))] [] h k n := by
  refine sg_aload_n (pc := 1405) (j := 1) dL_law_1405 rfl rfl ?_
  refine sg_aload_n (pc := 1406) (j := 0) dL_law_1406 rfl rfl ?_
  refine sg_iload (pc := 1407) dL_law_1407 rfl ?_
  refine sg_iconst (pc := 1409) (z := 1) dL_law_1409 (by decide) ?_
  first | refine sg_iaddB (pc := 1410) dL_law_1410 (by omega) (by omega) ?_ | refine sg_iadd (pc := 1410) dL_law_1410 ?_
  refine sg_iald (pc := 1411) dL_law_1411 hI.2.2.2.2.2.2.2.2.2 rfl (by omega) (jk_x (by omega) (by omega)) ?_
  refine sg_aload_n (pc := 1412) (j := 0) dL_law_1412 rfl rfl ?_
  refine sg_iload (pc := 1413) dL_law_1413 rfl ?_
  refine sg_iconst (pc := 1415) (z := 2) dL_law_1415 (by decide) ?_
  first | refine sg_iaddB (pc := 1416) dL_law_1416 (by omega) (by omega) ?_ | refine sg_iadd (pc := 1416) dL_law_1416 ?_
  refine sg_iald (pc := 1417) dL_law_1417 hI.2.2.2.2.2.2.2.2.2 rfl (by omega) (jk_x (by omega) (by omega)) ?_
  refine sg_cE2 (pc := 1418) (d' := d - 1) (mc' := 0) (ms' := 0) 6 g dL_law_1418 cb_X5_digit ml_L_287 mn_X5_digit rfl mv_X5_digit (Nat.le_of_ble_eq_true rfl) (ck_oc hI.2.2.1) (Nat.le_of_ble_eq_true rfl) (by first | exact jl_d0 hd rfl | omega) (by first | exact Nat.le_of_ble_eq_true rfl | omega) (by first | exact Nat.le_of_ble_eq_true rfl | omega) ?_
  refine s_X5_digit (B := B) g (by first | exact jl_d1 hd rfl | omega) (fun v1 c1 => sg_K1 ?_)
  refine sg_pop (pc := 1421) dL_law_1421 rfl ?_
  refine sg_aload_n (pc := 1422) (j := 2) dL_law_1422 rfl rfl ?_
  refine sg_aload_n (pc := 1423) (j := 0) dL_law_1423 rfl rfl ?_
  refine sg_iload (pc := 1424) dL_law_1424 rfl ?_
  refine sg_iconst (pc := 1426) (z := 1) dL_law_1426 (by decide) ?_
  first | refine sg_iaddB (pc := 1427) dL_law_1427 (by omega) (by omega) ?_ | refine sg_iadd (pc := 1427) dL_law_1427 ?_
  refine sg_iald (pc := 1428) dL_law_1428 hI.2.2.2.2.2.2.2.2.2 rfl (by omega) (jk_x (by omega) (by omega)) ?_
  refine sg_aload_n (pc := 1429) (j := 0) dL_law_1429 rfl rfl ?_
  refine sg_iload (pc := 1430) dL_law_1430 rfl ?_
  refine sg_iconst (pc := 1432) (z := 2) dL_law_1432 (by decide) ?_
  first | refine sg_iaddB (pc := 1433) dL_law_1433 (by omega) (by omega) ?_ | refine sg_iadd (pc := 1433) dL_law_1433 ?_
  refine sg_iald (pc := 1434) dL_law_1434 hI.2.2.2.2.2.2.2.2.2 rfl (by omega) (jk_x (by omega) (by omega)) ?_
  refine st_as (fun H r => jk_tgR (B := B) r) ?_
  have m2 := jk_Im hI
  refine sg_cE2 (pc := 1435) (d' := d - 1) (mc' := 0) (ms' := 0) 8 g dL_law_1435 cb_X7_digit ml_L_290 mn_X7_digit rfl mv_X7_digit (Nat.le_of_ble_eq_true rfl) (md_oc m2) (Nat.le_of_ble_eq_true rfl) (by first | exact jl_d0 hd rfl | omega) (by first | exact Nat.le_of_ble_eq_true rfl | omega) (by first | exact Nat.le_of_ble_eq_true rfl | omega) ?_
  refine s_X7_digit g (by first | exact jl_d1 hd rfl | omega) m2 (fun v2 h2 c2_0 y2 => sg_K1 ?_)
  refine st_as (fun H r => jk_unR hI.1 r) ?_
  have I2 := jk_IM hI y2
  refine sg_pop (pc := 1438) dL_law_1438 rfl ?_
  refine sg_goto (pc := 1439) (tgt := 2472) dL_law_1439 (by decide) ?_
  refine sg_lsub (lv' := [(0, _), (1, _), (2, _), (3, _), (4, _)]) ⟨rfl, rfl, rfl, rfl, rfl, trivial⟩ ?_
  exact K _ _ _ I2 (by omega) (by omega)

set_option maxRecDepth 100000 in
set_option maxHeartbeats 1000000 in
theorem lw_c29 {w : sg_W} {Q : sg_O → sg_H → Prop} {h : sg_H} (g : sg_G w) (nc : jk_C w) (hJ : jz w) {d mc ms : Nat} (hd : 30 ≤ d) {B M O S j k n : Nat} {xs : List Int} (hI : jk_I w B M O S xs h) (hj : 6 * j + 6 ≤ xs.length) (hl : xs.length ≤ 3072) (hk : k + 1030 ≤ mc) (hn : n + (48 + 0) ≤ ms) (K : ∀ (h' : sg_H) (k' n' : Nat), jk_I w B M O S xs h' → k' ≤ k + 1030 → n' ≤ n + (48 + 0) → sg_R w mi_L_law d mc ms Q 2472 [(0, sg_r S), (1, sg_r B), (2, sg_r M), (3, sg_r O), (4, sg_i (6 * (j : Int)))] [] h' k' n') : sg_R w mi_L_law d mc ms Q 1442 [(0, sg_r S), (1, sg_r B), (2, sg_r M), (3, sg_r O), (4, sg_i (6 * (j : Int)))] [] h k n := by
  refine sg_aload_n (pc := 1442) (j := 1) dL_law_1442 rfl rfl ?_
  refine sg_aload_n (pc := 1443) (j := 0) dL_law_1443 rfl rfl ?_
  refine sg_iload (pc := 1444) dL_law_1444 rfl ?_
  refine sg_iconst (pc := 1446) (z := 1) dL_law_1446 (by decide) ?_
  first | refine sg_iaddB (pc := 1447) dL_law_1447 (by omega) (by omega) ?_ | refine sg_iadd (pc := 1447) dL_law_1447 ?_
  refine sg_iald (pc := 1448) dL_law_1448 hI.2.2.2.2.2.2.2.2.2 rfl (by omega) (jk_x (by omega) (by omega)) ?_
  refine sg_aload_n (pc := 1449) (j := 3) dL_law_1449 rfl rfl ?_
  refine st_cS3 (pc := 1450) (d' := d - 1) (mc' := 8) (ms' := 48) g dL_law_1450 cb_L_length cw_L_length ml_L_291 ms_L_length (Nat.le_of_ble_eq_true rfl) (by first | exact jl_d0 hd rfl | omega) (by first | exact Nat.le_of_ble_eq_true rfl | omega) (by first | exact Nat.le_of_ble_eq_true rfl | omega) ?_
  refine s_L_length g nc (by omega) hI (fun v1 h1 I1 X1 => sg_K1 ?_)
  refine sg_istore (pc := 1453) dL_law_1453 (by decide) ?_
  refine sg_aload_n (pc := 1455) (j := 2) dL_law_1455 rfl rfl ?_
  refine sg_aload_n (pc := 1456) (j := 0) dL_law_1456 rfl rfl ?_
  refine sg_iload (pc := 1457) dL_law_1457 rfl ?_
  refine sg_iconst (pc := 1459) (z := 1) dL_law_1459 (by decide) ?_
  first | refine sg_iaddB (pc := 1460) dL_law_1460 (by omega) (by omega) ?_ | refine sg_iadd (pc := 1460) dL_law_1460 ?_
  refine sg_iald (pc := 1461) dL_law_1461 I1.2.2.2.2.2.2.2.2.2 rfl (by omega) (jk_x (by omega) (by omega)) ?_
  refine st_as (fun H r => jk_tgR (B := B) r) ?_
  have m2 := jk_Im I1
  refine sg_cE1 (pc := 1462) (d' := d - 1) (mc' := 0) (ms' := 0) 8 g dL_law_1462 cb_X7_length ml_L_293 mn_X7_length rfl mv_X7_length (Nat.le_of_ble_eq_true rfl) (md_oc m2) (Nat.le_of_ble_eq_true rfl) (by first | exact jl_d0 hd rfl | omega) (by first | exact Nat.le_of_ble_eq_true rfl | omega) (by first | exact Nat.le_of_ble_eq_true rfl | omega) ?_
  refine s_X7_length g (by first | exact jl_d1 hd rfl | omega) m2 (fun v2 h2  y2 => sg_K1 ?_)
  refine st_as (fun H r => jk_unR I1.1 r) ?_
  have I2 := jk_IM I1 y2
  refine sg_istore (pc := 1465) dL_law_1465 (by decide) ?_
  refine sg_goto (pc := 1467) (tgt := 2472) dL_law_1467 (by decide) ?_
  refine sg_lsub (lv' := [(0, _), (1, _), (2, _), (3, _), (4, _)]) ⟨rfl, rfl, rfl, rfl, rfl, trivial⟩ ?_
  exact K _ _ _ I2 (by omega) (by omega)

set_option maxRecDepth 100000 in
set_option maxHeartbeats 1000000 in
theorem lw_c30 {w : sg_W} {Q : sg_O → sg_H → Prop} {h : sg_H} (g : sg_G w) (nc : jk_C w) (hJ : jz w) {d mc ms : Nat} (hd : 30 ≤ d) {B M O S j k n : Nat} {xs : List Int} (hI : jk_I w B M O S xs h) (hj : 6 * j + 6 ≤ xs.length) (hl : xs.length ≤ 3072) (hk : k + 1030 ≤ mc) (hn : n + (48 + 0) ≤ ms) (K : ∀ (h' : sg_H) (k' n' : Nat), jk_I w B M O S xs h' → k' ≤ k + 1030 → n' ≤ n + (48 + 0) → sg_R w mi_L_law d mc ms Q 2472 [(0, sg_r S), (1, sg_r B), (2, sg_r M), (3, sg_r O), (4, sg_i (6 * (j : Int)))] [] h' k' n') : sg_R w mi_L_law d mc ms Q 1470 [(0, sg_r S), (1, sg_r B), (2, sg_r M), (3, sg_r O), (4, sg_i (6 * (j : Int)))] [] h k n := by
  refine sg_aload_n (pc := 1470) (j := 1) dL_law_1470 rfl rfl ?_
  refine sg_aload_n (pc := 1471) (j := 0) dL_law_1471 rfl rfl ?_
  refine sg_iload (pc := 1472) dL_law_1472 rfl ?_
  refine sg_iconst (pc := 1474) (z := 1) dL_law_1474 (by decide) ?_
  first | refine sg_iaddB (pc := 1475) dL_law_1475 (by omega) (by omega) ?_ | refine sg_iadd (pc := 1475) dL_law_1475 ?_
  refine sg_iald (pc := 1476) dL_law_1476 hI.2.2.2.2.2.2.2.2.2 rfl (by omega) (jk_x (by omega) (by omega)) ?_
  refine sg_aload_n (pc := 1477) (j := 0) dL_law_1477 rfl rfl ?_
  refine sg_iload (pc := 1478) dL_law_1478 rfl ?_
  refine sg_iconst (pc := 1480) (z := 2) dL_law_1480 (by decide) ?_
  first | refine sg_iaddB (pc := 1481) dL_law_1481 (by omega) (by omega) ?_ | refine sg_iadd (pc := 1481) dL_law_1481 ?_
  refine sg_iald (pc := 1482) dL_law_1482 hI.2.2.2.2.2.2.2.2.2 rfl (by omega) (jk_x (by omega) (by omega)) ?_
  refine sg_aload_n (pc := 1483) (j := 3) dL_law_1483 rfl rfl ?_
  refine st_cS4 (pc := 1484) (d' := d - 1) (mc' := 8) (ms' := 48) g dL_law_1484 cb_L_at cw_L_at ml_L_294 ms_L_at (Nat.le_of_ble_eq_true rfl) (by first | exact jl_d0 hd rfl | omega) (by first | exact Nat.le_of_ble_eq_true rfl | omega) (by first | exact Nat.le_of_ble_eq_true rfl | omega) ?_
  refine s_L_at g nc (by omega) hI (fun v1 h1 I1 X1 => sg_K1 ?_)
  refine sg_istore (pc := 1487) dL_law_1487 (by decide) ?_
  refine sg_aload_n (pc := 1489) (j := 2) dL_law_1489 rfl rfl ?_
  refine sg_aload_n (pc := 1490) (j := 0) dL_law_1490 rfl rfl ?_
  refine sg_iload (pc := 1491) dL_law_1491 rfl ?_
  refine sg_iconst (pc := 1493) (z := 1) dL_law_1493 (by decide) ?_
  first | refine sg_iaddB (pc := 1494) dL_law_1494 (by omega) (by omega) ?_ | refine sg_iadd (pc := 1494) dL_law_1494 ?_
  refine sg_iald (pc := 1495) dL_law_1495 I1.2.2.2.2.2.2.2.2.2 rfl (by omega) (jk_x (by omega) (by omega)) ?_
  refine sg_aload_n (pc := 1496) (j := 0) dL_law_1496 rfl rfl ?_
  refine sg_iload (pc := 1497) dL_law_1497 rfl ?_
  refine sg_iconst (pc := 1499) (z := 2) dL_law_1499 (by decide) ?_
  first | refine sg_iaddB (pc := 1500) dL_law_1500 (by omega) (by omega) ?_ | refine sg_iadd (pc := 1500) dL_law_1500 ?_
  refine sg_iald (pc := 1501) dL_law_1501 I1.2.2.2.2.2.2.2.2.2 rfl (by omega) (jk_x (by omega) (by omega)) ?_
  refine st_as (fun H r => jk_tgR (B := B) r) ?_
  have m2 := jk_Im I1
  refine sg_cE2 (pc := 1502) (d' := d - 1) (mc' := 0) (ms' := 0) 8 g dL_law_1502 cb_X7_at ml_L_296 mn_X7_at rfl mv_X7_at (Nat.le_of_ble_eq_true rfl) (md_oc m2) (Nat.le_of_ble_eq_true rfl) (by first | exact jl_d0 hd rfl | omega) (by first | exact Nat.le_of_ble_eq_true rfl | omega) (by first | exact Nat.le_of_ble_eq_true rfl | omega) ?_
  refine s_X7_at g (by first | exact jl_d1 hd rfl | omega) m2 (fun v2 h2  y2 => sg_K1 ?_)
  refine st_as (fun H r => jk_unR I1.1 r) ?_
  have I2 := jk_IM I1 y2
  refine sg_istore (pc := 1505) dL_law_1505 (by decide) ?_
  refine sg_goto (pc := 1507) (tgt := 2472) dL_law_1507 (by decide) ?_
  refine sg_lsub (lv' := [(0, _), (1, _), (2, _), (3, _), (4, _)]) ⟨rfl, rfl, rfl, rfl, rfl, trivial⟩ ?_
  exact K _ _ _ I2 (by omega) (by omega)

set_option maxRecDepth 100000 in
set_option maxHeartbeats 1000000 in
theorem lw_c31 {w : sg_W} {Q : sg_O → sg_H → Prop} {h : sg_H} (g : sg_G w) (nc : jk_C w) (hJ : jz w) {d mc ms : Nat} (hd : 30 ≤ d) {B M O S j k n : Nat} {xs : List Int} (hI : jk_I w B M O S xs h) (hj : 6 * j + 6 ≤ xs.length) (hl : xs.length ≤ 3072) (hk : k + 1030 ≤ mc) (hn : n + (48 + 0) ≤ ms) (K : ∀ (h' : sg_H) (k' n' : Nat), jk_I w B M O S xs h' → k' ≤ k + 1030 → n' ≤ n + (48 + 0) → sg_R w mi_L_law d mc ms Q 2472 [(0, sg_r S), (1, sg_r B), (2, sg_r M), (3, sg_r O), (4, sg_i (6 * (j : Int)))] [] h' k' n') : sg_R w mi_L_law d mc ms Q 1510 [(0, sg_r S), (1, sg_r B), (2, sg_r M), (3, sg_r O), (4, sg_i (6 * (j : Int)))] [] h k n := by
  refine sg_aload_n (pc := 1510) (j := 1) dL_law_1510 rfl rfl ?_
  refine sg_aload_n (pc := 1511) (j := 0) dL_law_1511 rfl rfl ?_
  refine sg_iload (pc := 1512) dL_law_1512 rfl ?_
  refine sg_iconst (pc := 1514) (z := 1) dL_law_1514 (by decide) ?_
  first | refine sg_iaddB (pc := 1515) dL_law_1515 (by omega) (by omega) ?_ | refine sg_iadd (pc := 1515) dL_law_1515 ?_
  refine sg_iald (pc := 1516) dL_law_1516 hI.2.2.2.2.2.2.2.2.2 rfl (by omega) (jk_x (by omega) (by omega)) ?_
  refine sg_aload_n (pc := 1517) (j := 0) dL_law_1517 rfl rfl ?_
  refine sg_iload (pc := 1518) dL_law_1518 rfl ?_
  refine sg_iconst (pc := 1520) (z := 2) dL_law_1520 (by decide) ?_
  first | refine sg_iaddB (pc := 1521) dL_law_1521 (by omega) (by omega) ?_ | refine sg_iadd (pc := 1521) dL_law_1521 ?_
  refine sg_iald (pc := 1522) dL_law_1522 hI.2.2.2.2.2.2.2.2.2 rfl (by omega) (jk_x (by omega) (by omega)) ?_
  refine sg_aload_n (pc := 1523) (j := 3) dL_law_1523 rfl rfl ?_
  refine st_cS4 (pc := 1524) (d' := d - 1) (mc' := 8) (ms' := 48) g dL_law_1524 cb_L_count cw_L_count ml_L_297 ms_L_count (Nat.le_of_ble_eq_true rfl) (by first | exact jl_d0 hd rfl | omega) (by first | exact Nat.le_of_ble_eq_true rfl | omega) (by first | exact Nat.le_of_ble_eq_true rfl | omega) ?_
  refine s_L_count g nc (by omega) hI (fun v1 h1 I1 X1 => sg_K1 ?_)
  refine sg_istore (pc := 1527) dL_law_1527 (by decide) ?_
  refine sg_aload_n (pc := 1529) (j := 2) dL_law_1529 rfl rfl ?_
  refine sg_aload_n (pc := 1530) (j := 0) dL_law_1530 rfl rfl ?_
  refine sg_iload (pc := 1531) dL_law_1531 rfl ?_
  refine sg_iconst (pc := 1533) (z := 1) dL_law_1533 (by decide) ?_
  first | refine sg_iaddB (pc := 1534) dL_law_1534 (by omega) (by omega) ?_ | refine sg_iadd (pc := 1534) dL_law_1534 ?_
  refine sg_iald (pc := 1535) dL_law_1535 I1.2.2.2.2.2.2.2.2.2 rfl (by omega) (jk_x (by omega) (by omega)) ?_
  refine sg_aload_n (pc := 1536) (j := 0) dL_law_1536 rfl rfl ?_
  refine sg_iload (pc := 1537) dL_law_1537 rfl ?_
  refine sg_iconst (pc := 1539) (z := 2) dL_law_1539 (by decide) ?_
  first | refine sg_iaddB (pc := 1540) dL_law_1540 (by omega) (by omega) ?_ | refine sg_iadd (pc := 1540) dL_law_1540 ?_
  refine sg_iald (pc := 1541) dL_law_1541 I1.2.2.2.2.2.2.2.2.2 rfl (by omega) (jk_x (by omega) (by omega)) ?_
  refine st_as (fun H r => jk_tgR (B := B) r) ?_
  have m2 := jk_Im I1
  refine sg_cE2 (pc := 1542) (d' := d - 1) (mc' := 0) (ms' := 0) 8 g dL_law_1542 cb_X7_count ml_L_299 mn_X7_count rfl mv_X7_count (Nat.le_of_ble_eq_true rfl) (md_oc m2) (Nat.le_of_ble_eq_true rfl) (by first | exact jl_d0 hd rfl | omega) (by first | exact Nat.le_of_ble_eq_true rfl | omega) (by first | exact Nat.le_of_ble_eq_true rfl | omega) ?_
  refine s_X7_count g (by first | exact jl_d1 hd rfl | omega) m2 (fun v2 h2  y2 => sg_K1 ?_)
  refine st_as (fun H r => jk_unR I1.1 r) ?_
  have I2 := jk_IM I1 y2
  refine sg_istore (pc := 1545) dL_law_1545 (by decide) ?_
  refine sg_goto (pc := 1547) (tgt := 2472) dL_law_1547 (by decide) ?_
  refine sg_lsub (lv' := [(0, _), (1, _), (2, _), (3, _), (4, _)]) ⟨rfl, rfl, rfl, rfl, rfl, trivial⟩ ?_
  exact K _ _ _ I2 (by omega) (by omega)

set_option maxRecDepth 100000 in
set_option maxHeartbeats 1000000 in
theorem lw_c32 {w : sg_W} {Q : sg_O → sg_H → Prop} {h : sg_H} (g : sg_G w) (nc : jk_C w) (hJ : jz w) {d mc ms : Nat} (hd : 30 ≤ d) {B M O S j k n : Nat} {xs : List Int} (hI : jk_I w B M O S xs h) (hj : 6 * j + 6 ≤ xs.length) (hl : xs.length ≤ 3072) (hk : k + 1030 ≤ mc) (hn : n + (48 + 0) ≤ ms) (K : ∀ (h' : sg_H) (k' n' : Nat), jk_I w B M O S xs h' → k' ≤ k + 1030 → n' ≤ n + (48 + 0) → sg_R w mi_L_law d mc ms Q 2472 [(0, sg_r S), (1, sg_r B), (2, sg_r M), (3, sg_r O), (4, sg_i (6 * (j : Int)))] [] h' k' n') : sg_R w mi_L_law d mc ms Q 1550 [(0, sg_r S), (1, sg_r B), (2, sg_r M), (3, sg_r O), (4, sg_i (6 * (j : Int)))] [] h k n := by
  refine sg_aload_n (pc := 1550) (j := 1) dL_law_1550 rfl rfl ?_
  refine sg_aload_n (pc := 1551) (j := 0) dL_law_1551 rfl rfl ?_
  refine sg_iload (pc := 1552) dL_law_1552 rfl ?_
  refine sg_iconst (pc := 1554) (z := 1) dL_law_1554 (by decide) ?_
  first | refine sg_iaddB (pc := 1555) dL_law_1555 (by omega) (by omega) ?_ | refine sg_iadd (pc := 1555) dL_law_1555 ?_
  refine sg_iald (pc := 1556) dL_law_1556 hI.2.2.2.2.2.2.2.2.2 rfl (by omega) (jk_x (by omega) (by omega)) ?_
  refine sg_aload_n (pc := 1557) (j := 0) dL_law_1557 rfl rfl ?_
  refine sg_iload (pc := 1558) dL_law_1558 rfl ?_
  refine sg_iconst (pc := 1560) (z := 2) dL_law_1560 (by decide) ?_
  first | refine sg_iaddB (pc := 1561) dL_law_1561 (by omega) (by omega) ?_ | refine sg_iadd (pc := 1561) dL_law_1561 ?_
  refine sg_iald (pc := 1562) dL_law_1562 hI.2.2.2.2.2.2.2.2.2 rfl (by omega) (jk_x (by omega) (by omega)) ?_
  refine sg_aload_n (pc := 1563) (j := 0) dL_law_1563 rfl rfl ?_
  refine sg_iload (pc := 1564) dL_law_1564 rfl ?_
  refine sg_iconst (pc := 1566) (z := 3) dL_law_1566 (by decide) ?_
  first | refine sg_iaddB (pc := 1567) dL_law_1567 (by omega) (by omega) ?_ | refine sg_iadd (pc := 1567) dL_law_1567 ?_
  refine sg_iald (pc := 1568) dL_law_1568 hI.2.2.2.2.2.2.2.2.2 rfl (by omega) (jk_x (by omega) (by omega)) ?_
  refine sg_aload_n (pc := 1569) (j := 3) dL_law_1569 rfl rfl ?_
  refine st_cS5 (pc := 1570) (d' := d - 1) (mc' := 8) (ms' := 48) g dL_law_1570 cb_L_first cw_L_first ml_L_300 ms_L_first (Nat.le_of_ble_eq_true rfl) (by first | exact jl_d0 hd rfl | omega) (by first | exact Nat.le_of_ble_eq_true rfl | omega) (by first | exact Nat.le_of_ble_eq_true rfl | omega) ?_
  refine s_L_first g nc (by omega) hI (fun v1 h1 I1 X1 => sg_K1 ?_)
  refine sg_istore (pc := 1573) dL_law_1573 (by decide) ?_
  refine sg_aload_n (pc := 1575) (j := 2) dL_law_1575 rfl rfl ?_
  refine sg_aload_n (pc := 1576) (j := 0) dL_law_1576 rfl rfl ?_
  refine sg_iload (pc := 1577) dL_law_1577 rfl ?_
  refine sg_iconst (pc := 1579) (z := 1) dL_law_1579 (by decide) ?_
  first | refine sg_iaddB (pc := 1580) dL_law_1580 (by omega) (by omega) ?_ | refine sg_iadd (pc := 1580) dL_law_1580 ?_
  refine sg_iald (pc := 1581) dL_law_1581 I1.2.2.2.2.2.2.2.2.2 rfl (by omega) (jk_x (by omega) (by omega)) ?_
  refine sg_aload_n (pc := 1582) (j := 0) dL_law_1582 rfl rfl ?_
  refine sg_iload (pc := 1583) dL_law_1583 rfl ?_
  refine sg_iconst (pc := 1585) (z := 2) dL_law_1585 (by decide) ?_
  first | refine sg_iaddB (pc := 1586) dL_law_1586 (by omega) (by omega) ?_ | refine sg_iadd (pc := 1586) dL_law_1586 ?_
  refine sg_iald (pc := 1587) dL_law_1587 I1.2.2.2.2.2.2.2.2.2 rfl (by omega) (jk_x (by omega) (by omega)) ?_
  refine sg_aload_n (pc := 1588) (j := 0) dL_law_1588 rfl rfl ?_
  refine sg_iload (pc := 1589) dL_law_1589 rfl ?_
  refine sg_iconst (pc := 1591) (z := 3) dL_law_1591 (by decide) ?_
  first | refine sg_iaddB (pc := 1592) dL_law_1592 (by omega) (by omega) ?_ | refine sg_iadd (pc := 1592) dL_law_1592 ?_
  refine sg_iald (pc := 1593) dL_law_1593 I1.2.2.2.2.2.2.2.2.2 rfl (by omega) (jk_x (by omega) (by omega)) ?_
  refine st_as (fun H r => jk_tgR (B := B) r) ?_
  have m2 := jk_Im I1
  refine sg_cE3 (pc := 1594) (d' := d - 1) (mc' := 0) (ms' := 0) 8 g dL_law_1594 cb_X7_first ml_L_302 mn_X7_first rfl mv_X7_first (Nat.le_of_ble_eq_true rfl) (md_oc m2) (Nat.le_of_ble_eq_true rfl) (by first | exact jl_d0 hd rfl | omega) (by first | exact Nat.le_of_ble_eq_true rfl | omega) (by first | exact Nat.le_of_ble_eq_true rfl | omega) ?_
  refine s_X7_first g (by first | exact jl_d1 hd rfl | omega) m2 (fun v2 h2  y2 => sg_K1 ?_)
  refine st_as (fun H r => jk_unR I1.1 r) ?_
  have I2 := jk_IM I1 y2
  refine sg_istore (pc := 1597) dL_law_1597 (by decide) ?_
  refine sg_goto (pc := 1599) (tgt := 2472) dL_law_1599 (by decide) ?_
  refine sg_lsub (lv' := [(0, _), (1, _), (2, _), (3, _), (4, _)]) ⟨rfl, rfl, rfl, rfl, rfl, trivial⟩ ?_
  exact K _ _ _ I2 (by omega) (by omega)

set_option maxRecDepth 100000 in
set_option maxHeartbeats 1000000 in
theorem lw_c33 {w : sg_W} {Q : sg_O → sg_H → Prop} {h : sg_H} (g : sg_G w) (nc : jk_C w) (hJ : jz w) {d mc ms : Nat} (hd : 30 ≤ d) {B M O S j k n : Nat} {xs : List Int} (hI : jk_I w B M O S xs h) (hj : 6 * j + 6 ≤ xs.length) (hl : xs.length ≤ 3072) (hk : k + 1030 ≤ mc) (hn : n + (48 + 0) ≤ ms) (K : ∀ (h' : sg_H) (k' n' : Nat), jk_I w B M O S xs h' → k' ≤ k + 1030 → n' ≤ n + (48 + 0) → sg_R w mi_L_law d mc ms Q 2472 [(0, sg_r S), (1, sg_r B), (2, sg_r M), (3, sg_r O), (4, sg_i (6 * (j : Int)))] [] h' k' n') : sg_R w mi_L_law d mc ms Q 1602 [(0, sg_r S), (1, sg_r B), (2, sg_r M), (3, sg_r O), (4, sg_i (6 * (j : Int)))] [] h k n := by
  refine sg_aload_n (pc := 1602) (j := 1) dL_law_1602 rfl rfl ?_
  refine sg_aload_n (pc := 1603) (j := 0) dL_law_1603 rfl rfl ?_
  refine sg_iload (pc := 1604) dL_law_1604 rfl ?_
  refine sg_iconst (pc := 1606) (z := 1) dL_law_1606 (by decide) ?_
  first | refine sg_iaddB (pc := 1607) dL_law_1607 (by omega) (by omega) ?_ | refine sg_iadd (pc := 1607) dL_law_1607 ?_
  refine sg_iald (pc := 1608) dL_law_1608 hI.2.2.2.2.2.2.2.2.2 rfl (by omega) (jk_x (by omega) (by omega)) ?_
  refine sg_aload_n (pc := 1609) (j := 0) dL_law_1609 rfl rfl ?_
  refine sg_iload (pc := 1610) dL_law_1610 rfl ?_
  refine sg_iconst (pc := 1612) (z := 2) dL_law_1612 (by decide) ?_
  first | refine sg_iaddB (pc := 1613) dL_law_1613 (by omega) (by omega) ?_ | refine sg_iadd (pc := 1613) dL_law_1613 ?_
  refine sg_iald (pc := 1614) dL_law_1614 hI.2.2.2.2.2.2.2.2.2 rfl (by omega) (jk_x (by omega) (by omega)) ?_
  refine sg_aload_n (pc := 1615) (j := 3) dL_law_1615 rfl rfl ?_
  refine st_cS4 (pc := 1616) (d' := d - 1) (mc' := 8) (ms' := 48) g dL_law_1616 cb_L_last cw_L_last ml_L_303 ms_L_last (Nat.le_of_ble_eq_true rfl) (by first | exact jl_d0 hd rfl | omega) (by first | exact Nat.le_of_ble_eq_true rfl | omega) (by first | exact Nat.le_of_ble_eq_true rfl | omega) ?_
  refine s_L_last g nc (by omega) hI (fun v1 h1 I1 X1 => sg_K1 ?_)
  refine sg_istore (pc := 1619) dL_law_1619 (by decide) ?_
  refine sg_aload_n (pc := 1621) (j := 2) dL_law_1621 rfl rfl ?_
  refine sg_aload_n (pc := 1622) (j := 0) dL_law_1622 rfl rfl ?_
  refine sg_iload (pc := 1623) dL_law_1623 rfl ?_
  refine sg_iconst (pc := 1625) (z := 1) dL_law_1625 (by decide) ?_
  first | refine sg_iaddB (pc := 1626) dL_law_1626 (by omega) (by omega) ?_ | refine sg_iadd (pc := 1626) dL_law_1626 ?_
  refine sg_iald (pc := 1627) dL_law_1627 I1.2.2.2.2.2.2.2.2.2 rfl (by omega) (jk_x (by omega) (by omega)) ?_
  refine sg_aload_n (pc := 1628) (j := 0) dL_law_1628 rfl rfl ?_
  refine sg_iload (pc := 1629) dL_law_1629 rfl ?_
  refine sg_iconst (pc := 1631) (z := 2) dL_law_1631 (by decide) ?_
  first | refine sg_iaddB (pc := 1632) dL_law_1632 (by omega) (by omega) ?_ | refine sg_iadd (pc := 1632) dL_law_1632 ?_
  refine sg_iald (pc := 1633) dL_law_1633 I1.2.2.2.2.2.2.2.2.2 rfl (by omega) (jk_x (by omega) (by omega)) ?_
  refine st_as (fun H r => jk_tgR (B := B) r) ?_
  have m2 := jk_Im I1
  refine sg_cE2 (pc := 1634) (d' := d - 1) (mc' := 0) (ms' := 0) 8 g dL_law_1634 cb_X7_last ml_L_305 mn_X7_last rfl mv_X7_last (Nat.le_of_ble_eq_true rfl) (md_oc m2) (Nat.le_of_ble_eq_true rfl) (by first | exact jl_d0 hd rfl | omega) (by first | exact Nat.le_of_ble_eq_true rfl | omega) (by first | exact Nat.le_of_ble_eq_true rfl | omega) ?_
  refine s_X7_last g (by first | exact jl_d1 hd rfl | omega) m2 (fun v2 h2  y2 => sg_K1 ?_)
  refine st_as (fun H r => jk_unR I1.1 r) ?_
  have I2 := jk_IM I1 y2
  refine sg_istore (pc := 1637) dL_law_1637 (by decide) ?_
  refine sg_goto (pc := 1639) (tgt := 2472) dL_law_1639 (by decide) ?_
  refine sg_lsub (lv' := [(0, _), (1, _), (2, _), (3, _), (4, _)]) ⟨rfl, rfl, rfl, rfl, rfl, trivial⟩ ?_
  exact K _ _ _ I2 (by omega) (by omega)

set_option maxRecDepth 100000 in
set_option maxHeartbeats 1000000 in
theorem lw_c34 {w : sg_W} {Q : sg_O → sg_H → Prop} {h : sg_H} (g : sg_G w) (nc : jk_C w) (hJ : jz w) {d mc ms : Nat} (hd : 30 ≤ d) {B M O S j k n : Nat} {xs : List Int} (hI : jk_I w B M O S xs h) (hj : 6 * j + 6 ≤ xs.length) (hl : xs.length ≤ 3072) (hk : k + 1030 ≤ mc) (hn : n + (168 + 3061) ≤ ms) (K : ∀ (h' : sg_H) (k' n' : Nat), jk_I w B M O S xs h' → k' ≤ k + 1030 → n' ≤ n + (168 + 3061) → sg_R w mi_L_law d mc ms Q 2472 [(0, sg_r S), (1, sg_r B), (2, sg_r M), (3, sg_r O), (4, sg_i (6 * (j : Int)))] [] h' k' n') : sg_R w mi_L_law d mc ms Q 1642 [(0, sg_r S), (1, sg_r B), (2, sg_r M), (3, sg_r O), (4, sg_i (6 * (j : Int)))] [] h k n := by
  refine sg_aload_n (pc := 1642) (j := 1) dL_law_1642 rfl rfl ?_
  refine sg_aload_n (pc := 1643) (j := 0) dL_law_1643 rfl rfl ?_
  refine sg_iload (pc := 1644) dL_law_1644 rfl ?_
  refine sg_iconst (pc := 1646) (z := 1) dL_law_1646 (by decide) ?_
  first | refine sg_iaddB (pc := 1647) dL_law_1647 (by omega) (by omega) ?_ | refine sg_iadd (pc := 1647) dL_law_1647 ?_
  refine sg_iald (pc := 1648) dL_law_1648 hI.2.2.2.2.2.2.2.2.2 rfl (by omega) (jk_x (by omega) (by omega)) ?_
  refine sg_aload_n (pc := 1649) (j := 3) dL_law_1649 rfl rfl ?_
  refine st_cS3 (pc := 1650) (d' := d - 1) (mc' := 6) (ms' := 168) g dL_law_1650 cb_L_forms cw_L_forms ml_L_306 ms_L_forms (Nat.le_of_ble_eq_true rfl) (by first | exact jl_d0 hd rfl | omega) (by first | exact Nat.le_of_ble_eq_true rfl | omega) (by first | exact Nat.le_of_ble_eq_true rfl | omega) ?_
  refine s_L_forms g nc hJ (by omega) hI (fun v1 h1 I1 X1 => sg_K1 ?_)
  refine sg_istore (pc := 1653) dL_law_1653 (by decide) ?_
  refine sg_aload_n (pc := 1655) (j := 2) dL_law_1655 rfl rfl ?_
  refine sg_aload_n (pc := 1656) (j := 0) dL_law_1656 rfl rfl ?_
  refine sg_iload (pc := 1657) dL_law_1657 rfl ?_
  refine sg_iconst (pc := 1659) (z := 1) dL_law_1659 (by decide) ?_
  first | refine sg_iaddB (pc := 1660) dL_law_1660 (by omega) (by omega) ?_ | refine sg_iadd (pc := 1660) dL_law_1660 ?_
  refine sg_iald (pc := 1661) dL_law_1661 I1.2.2.2.2.2.2.2.2.2 rfl (by omega) (jk_x (by omega) (by omega)) ?_
  refine st_as (fun H r => jk_tgR (B := B) r) ?_
  have m2 := jk_Im I1
  refine sg_cE1 (pc := 1662) (d' := d - 1) (mc' := 240) (ms' := 3061) 8 g dL_law_1662 cb_X7_forms ml_L_308 mn_X7_forms rfl mv_X7_forms (Nat.le_of_ble_eq_true rfl) (md_oc m2) (Nat.le_of_ble_eq_true rfl) (by first | exact jl_d0 hd rfl | omega) (by first | exact Nat.le_of_ble_eq_true rfl | omega) (by first | exact Nat.le_of_ble_eq_true rfl | omega) ?_
  have q40 := jf40
  rw [← jf40]
  refine s_X7_forms g (by first | exact jl_d1 hd rfl | omega) m2 (fun v2 h2  y2 => sg_K1 ?_)
  refine st_as (fun H r => jk_unR I1.1 r) ?_
  have I2 := jk_IM I1 y2
  refine sg_astore (pc := 1665) dL_law_1665 (by decide) ?_
  refine sg_goto (pc := 1667) (tgt := 2472) dL_law_1667 (by decide) ?_
  refine sg_lsub (lv' := [(0, _), (1, _), (2, _), (3, _), (4, _)]) ⟨rfl, rfl, rfl, rfl, rfl, trivial⟩ ?_
  exact K _ _ _ I2 (by omega) (by omega)

set_option maxRecDepth 100000 in
set_option maxHeartbeats 1000000 in
theorem lw_c35 {w : sg_W} {Q : sg_O → sg_H → Prop} {h : sg_H} (g : sg_G w) (nc : jk_C w) (hJ : jz w) {d mc ms : Nat} (hd : 30 ≤ d) {B M O S j k n : Nat} {xs : List Int} (hI : jk_I w B M O S xs h) (hj : 6 * j + 6 ≤ xs.length) (hl : xs.length ≤ 3072) {K0 : Nat} (hK : ∀ row : Int, (0 ≤ row ∧ row < 4) → md_n (jk_cut B h) (md_a (jk_cut B h) (md_r (jk_cut B h) M) row) ≤ K0) (hK2 : K0 ≤ 40) (hk : k + 1030 ≤ mc) (hn : n + (350 + (2 * K0 + jf (2 * K0))) ≤ ms) (K : ∀ (h' : sg_H) (k' n' : Nat), jk_I w B M O S xs h' → k' ≤ k + 1030 → n' ≤ n + (350 + (2 * K0 + jf (2 * K0))) → sg_R w mi_L_law d mc ms Q 2472 [(0, sg_r S), (1, sg_r B), (2, sg_r M), (3, sg_r O), (4, sg_i (6 * (j : Int)))] [] h' k' n') : sg_R w mi_L_law d mc ms Q 1670 [(0, sg_r S), (1, sg_r B), (2, sg_r M), (3, sg_r O), (4, sg_i (6 * (j : Int)))] [] h k n := by
  refine sg_aload_n (pc := 1670) (j := 1) dL_law_1670 rfl rfl ?_
  refine sg_aload_n (pc := 1671) (j := 0) dL_law_1671 rfl rfl ?_
  refine sg_iload (pc := 1672) dL_law_1672 rfl ?_
  refine sg_iconst (pc := 1674) (z := 1) dL_law_1674 (by decide) ?_
  first | refine sg_iaddB (pc := 1675) dL_law_1675 (by omega) (by omega) ?_ | refine sg_iadd (pc := 1675) dL_law_1675 ?_
  refine sg_iald (pc := 1676) dL_law_1676 hI.2.2.2.2.2.2.2.2.2 rfl (by omega) (jk_x (by omega) (by omega)) ?_
  refine sg_aload_n (pc := 1677) (j := 3) dL_law_1677 rfl rfl ?_
  refine st_cS3 (pc := 1678) (d' := d - 1) (mc' := 7) (ms' := 350) g dL_law_1678 cb_L_spelled cw_L_spelled ml_L_309 ms_L_spelled (Nat.le_of_ble_eq_true rfl) (by first | exact jl_d0 hd rfl | omega) (by first | exact Nat.le_of_ble_eq_true rfl | omega) (by first | exact Nat.le_of_ble_eq_true rfl | omega) ?_
  refine s_L_spelled g nc hJ (by omega) hI (fun v1 h1 I1 X1 => sg_K1 ?_)
  refine sg_istore (pc := 1681) dL_law_1681 (by decide) ?_
  refine sg_aload_n (pc := 1683) (j := 2) dL_law_1683 rfl rfl ?_
  refine sg_aload_n (pc := 1684) (j := 0) dL_law_1684 rfl rfl ?_
  refine sg_iload (pc := 1685) dL_law_1685 rfl ?_
  refine sg_iconst (pc := 1687) (z := 1) dL_law_1687 (by decide) ?_
  first | refine sg_iaddB (pc := 1688) dL_law_1688 (by omega) (by omega) ?_ | refine sg_iadd (pc := 1688) dL_law_1688 ?_
  refine sg_iald (pc := 1689) dL_law_1689 I1.2.2.2.2.2.2.2.2.2 rfl (by omega) (jk_x (by omega) (by omega)) ?_
  refine st_as (fun H r => jk_tgR (B := B) r) ?_
  have m2 := jk_Im I1
  refine sg_cE1 (pc := 1690) (d' := d - 1) (mc' := (1 + 12 * K0)) (ms' := (2 * K0 + jf (2 * K0))) 8 g dL_law_1690 cb_X7_spelled ml_L_311 mn_X7_spelled rfl mv_X7_spelled (Nat.le_of_ble_eq_true rfl) (md_oc m2) (Nat.le_of_ble_eq_true rfl) (by first | exact jl_d0 hd rfl | omega) (by first | exact Nat.le_of_ble_eq_true rfl | omega) (by first | exact Nat.le_of_ble_eq_true rfl | omega) ?_
  have hK1 : ∀ row : Int, (0 ≤ row ∧ row < 4) → md_n (jk_tag B h1) (md_a (jk_tag B h1) (md_r (jk_tag B h1) M) row) ≤ K0 := fun row hr => by
    rw [md_SX I1.2.2.2.1 jk_cutX hr.1 (by omega), md_SX hI.2.2.2.1 X1 hr.1 (by omega)]
    exact hK row hr
  refine s_X7_spelled g (by first | exact jl_d1 hd rfl | omega) (hK1 _) hK2 m2 (fun v2 h2  y2 => sg_K1 ?_)
  refine st_as (fun H r => jk_unR I1.1 r) ?_
  have I2 := jk_IM I1 y2
  refine sg_astore (pc := 1693) dL_law_1693 (by decide) ?_
  refine sg_goto (pc := 1695) (tgt := 2472) dL_law_1695 (by decide) ?_
  refine sg_lsub (lv' := [(0, _), (1, _), (2, _), (3, _), (4, _)]) ⟨rfl, rfl, rfl, rfl, rfl, trivial⟩ ?_
  exact K _ _ _ I2 (by omega) (by omega)

set_option maxRecDepth 100000 in
set_option maxHeartbeats 1000000 in
theorem lw_c36 {w : sg_W} {Q : sg_O → sg_H → Prop} {h : sg_H} (g : sg_G w) (nc : jk_C w) (hJ : jz w) {d mc ms : Nat} (hd : 30 ≤ d) {B M O S j k n : Nat} {xs : List Int} (hI : jk_I w B M O S xs h) (hj : 6 * j + 6 ≤ xs.length) (hl : xs.length ≤ 3072) (hk : k + 1030 ≤ mc) (hn : n + (48 + 0) ≤ ms) (K : ∀ (h' : sg_H) (k' n' : Nat), jk_I w B M O S xs h' → k' ≤ k + 1030 → n' ≤ n + (48 + 0) → sg_R w mi_L_law d mc ms Q 2472 [(0, sg_r S), (1, sg_r B), (2, sg_r M), (3, sg_r O), (4, sg_i (6 * (j : Int)))] [] h' k' n') : sg_R w mi_L_law d mc ms Q 1698 [(0, sg_r S), (1, sg_r B), (2, sg_r M), (3, sg_r O), (4, sg_i (6 * (j : Int)))] [] h k n := by
  refine sg_aload_n (pc := 1698) (j := 1) dL_law_1698 rfl rfl ?_
  refine sg_aload_n (pc := 1699) (j := 0) dL_law_1699 rfl rfl ?_
  refine sg_iload (pc := 1700) dL_law_1700 rfl ?_
  refine sg_iconst (pc := 1702) (z := 1) dL_law_1702 (by decide) ?_
  first | refine sg_iaddB (pc := 1703) dL_law_1703 (by omega) (by omega) ?_ | refine sg_iadd (pc := 1703) dL_law_1703 ?_
  refine sg_iald (pc := 1704) dL_law_1704 hI.2.2.2.2.2.2.2.2.2 rfl (by omega) (jk_x (by omega) (by omega)) ?_
  refine sg_aload_n (pc := 1705) (j := 0) dL_law_1705 rfl rfl ?_
  refine sg_iload (pc := 1706) dL_law_1706 rfl ?_
  refine sg_iconst (pc := 1708) (z := 2) dL_law_1708 (by decide) ?_
  first | refine sg_iaddB (pc := 1709) dL_law_1709 (by omega) (by omega) ?_ | refine sg_iadd (pc := 1709) dL_law_1709 ?_
  refine sg_iald (pc := 1710) dL_law_1710 hI.2.2.2.2.2.2.2.2.2 rfl (by omega) (jk_x (by omega) (by omega)) ?_
  refine sg_aload_n (pc := 1711) (j := 3) dL_law_1711 rfl rfl ?_
  refine st_cS4 (pc := 1712) (d' := d - 1) (mc' := 8) (ms' := 48) g dL_law_1712 cb_L_told cw_L_told ml_L_312 ms_L_told (Nat.le_of_ble_eq_true rfl) (by first | exact jl_d0 hd rfl | omega) (by first | exact Nat.le_of_ble_eq_true rfl | omega) (by first | exact Nat.le_of_ble_eq_true rfl | omega) ?_
  refine s_L_told g nc (by omega) hI (fun v1 h1 I1 X1 => sg_K1 ?_)
  refine sg_istore (pc := 1715) dL_law_1715 (by decide) ?_
  refine sg_aload_n (pc := 1717) (j := 2) dL_law_1717 rfl rfl ?_
  refine sg_aload_n (pc := 1718) (j := 0) dL_law_1718 rfl rfl ?_
  refine sg_iload (pc := 1719) dL_law_1719 rfl ?_
  refine sg_iconst (pc := 1721) (z := 1) dL_law_1721 (by decide) ?_
  first | refine sg_iaddB (pc := 1722) dL_law_1722 (by omega) (by omega) ?_ | refine sg_iadd (pc := 1722) dL_law_1722 ?_
  refine sg_iald (pc := 1723) dL_law_1723 I1.2.2.2.2.2.2.2.2.2 rfl (by omega) (jk_x (by omega) (by omega)) ?_
  refine sg_aload_n (pc := 1724) (j := 0) dL_law_1724 rfl rfl ?_
  refine sg_iload (pc := 1725) dL_law_1725 rfl ?_
  refine sg_iconst (pc := 1727) (z := 2) dL_law_1727 (by decide) ?_
  first | refine sg_iaddB (pc := 1728) dL_law_1728 (by omega) (by omega) ?_ | refine sg_iadd (pc := 1728) dL_law_1728 ?_
  refine sg_iald (pc := 1729) dL_law_1729 I1.2.2.2.2.2.2.2.2.2 rfl (by omega) (jk_x (by omega) (by omega)) ?_
  refine st_as (fun H r => jk_tgR (B := B) r) ?_
  have m2 := jk_Im I1
  refine sg_cE2 (pc := 1730) (d' := d - 1) (mc' := 0) (ms' := 0) 8 g dL_law_1730 cb_X7_told ml_L_314 mn_X7_told rfl mv_X7_told (Nat.le_of_ble_eq_true rfl) (md_oc m2) (Nat.le_of_ble_eq_true rfl) (by first | exact jl_d0 hd rfl | omega) (by first | exact Nat.le_of_ble_eq_true rfl | omega) (by first | exact Nat.le_of_ble_eq_true rfl | omega) ?_
  refine s_X7_told g (by first | exact jl_d1 hd rfl | omega) m2 (fun v2 h2  y2 => sg_K1 ?_)
  refine st_as (fun H r => jk_unR I1.1 r) ?_
  have I2 := jk_IM I1 y2
  refine sg_istore (pc := 1733) dL_law_1733 (by decide) ?_
  refine sg_goto (pc := 1735) (tgt := 2472) dL_law_1735 (by decide) ?_
  refine sg_lsub (lv' := [(0, _), (1, _), (2, _), (3, _), (4, _)]) ⟨rfl, rfl, rfl, rfl, rfl, trivial⟩ ?_
  exact K _ _ _ I2 (by omega) (by omega)

set_option maxRecDepth 100000 in
set_option maxHeartbeats 1000000 in
theorem lw_c37 {w : sg_W} {Q : sg_O → sg_H → Prop} {h : sg_H} (g : sg_G w) (nc : jk_C w) (hJ : jz w) {d mc ms : Nat} (hd : 30 ≤ d) {B M O S j k n : Nat} {xs : List Int} (hI : jk_I w B M O S xs h) (hj : 6 * j + 6 ≤ xs.length) (hl : xs.length ≤ 3072) (hk : k + 1030 ≤ mc) (hn : n + (48 + 0) ≤ ms) (K : ∀ (h' : sg_H) (k' n' : Nat), jk_I w B M O S xs h' → k' ≤ k + 1030 → n' ≤ n + (48 + 0) → sg_R w mi_L_law d mc ms Q 2472 [(0, sg_r S), (1, sg_r B), (2, sg_r M), (3, sg_r O), (4, sg_i (6 * (j : Int)))] [] h' k' n') : sg_R w mi_L_law d mc ms Q 1738 [(0, sg_r S), (1, sg_r B), (2, sg_r M), (3, sg_r O), (4, sg_i (6 * (j : Int)))] [] h k n := by
  refine sg_aload_n (pc := 1738) (j := 1) dL_law_1738 rfl rfl ?_
  refine sg_aload_n (pc := 1739) (j := 0) dL_law_1739 rfl rfl ?_
  refine sg_iload (pc := 1740) dL_law_1740 rfl ?_
  refine sg_iconst (pc := 1742) (z := 1) dL_law_1742 (by decide) ?_
  first | refine sg_iaddB (pc := 1743) dL_law_1743 (by omega) (by omega) ?_ | refine sg_iadd (pc := 1743) dL_law_1743 ?_
  refine sg_iald (pc := 1744) dL_law_1744 hI.2.2.2.2.2.2.2.2.2 rfl (by omega) (jk_x (by omega) (by omega)) ?_
  refine sg_aload_n (pc := 1745) (j := 0) dL_law_1745 rfl rfl ?_
  refine sg_iload (pc := 1746) dL_law_1746 rfl ?_
  refine sg_iconst (pc := 1748) (z := 2) dL_law_1748 (by decide) ?_
  first | refine sg_iaddB (pc := 1749) dL_law_1749 (by omega) (by omega) ?_ | refine sg_iadd (pc := 1749) dL_law_1749 ?_
  refine sg_iald (pc := 1750) dL_law_1750 hI.2.2.2.2.2.2.2.2.2 rfl (by omega) (jk_x (by omega) (by omega)) ?_
  refine sg_aload_n (pc := 1751) (j := 3) dL_law_1751 rfl rfl ?_
  refine st_cS4 (pc := 1752) (d' := d - 1) (mc' := 8) (ms' := 48) g dL_law_1752 cb_L_sum cw_L_sum ml_L_315 ms_L_sum (Nat.le_of_ble_eq_true rfl) (by first | exact jl_d0 hd rfl | omega) (by first | exact Nat.le_of_ble_eq_true rfl | omega) (by first | exact Nat.le_of_ble_eq_true rfl | omega) ?_
  refine s_L_sum g nc (by omega) hI (fun v1 h1 I1 X1 => sg_K1 ?_)
  refine sg_istore (pc := 1755) dL_law_1755 (by decide) ?_
  refine sg_aload_n (pc := 1757) (j := 2) dL_law_1757 rfl rfl ?_
  refine sg_aload_n (pc := 1758) (j := 0) dL_law_1758 rfl rfl ?_
  refine sg_iload (pc := 1759) dL_law_1759 rfl ?_
  refine sg_iconst (pc := 1761) (z := 1) dL_law_1761 (by decide) ?_
  first | refine sg_iaddB (pc := 1762) dL_law_1762 (by omega) (by omega) ?_ | refine sg_iadd (pc := 1762) dL_law_1762 ?_
  refine sg_iald (pc := 1763) dL_law_1763 I1.2.2.2.2.2.2.2.2.2 rfl (by omega) (jk_x (by omega) (by omega)) ?_
  refine sg_aload_n (pc := 1764) (j := 0) dL_law_1764 rfl rfl ?_
  refine sg_iload (pc := 1765) dL_law_1765 rfl ?_
  refine sg_iconst (pc := 1767) (z := 2) dL_law_1767 (by decide) ?_
  first | refine sg_iaddB (pc := 1768) dL_law_1768 (by omega) (by omega) ?_ | refine sg_iadd (pc := 1768) dL_law_1768 ?_
  refine sg_iald (pc := 1769) dL_law_1769 I1.2.2.2.2.2.2.2.2.2 rfl (by omega) (jk_x (by omega) (by omega)) ?_
  refine st_as (fun H r => jk_tgR (B := B) r) ?_
  have m2 := jk_Im I1
  refine sg_cE2 (pc := 1770) (d' := d - 1) (mc' := 0) (ms' := 0) 8 g dL_law_1770 cb_X7_sum ml_L_317 mn_X7_sum rfl mv_X7_sum (Nat.le_of_ble_eq_true rfl) (md_oc m2) (Nat.le_of_ble_eq_true rfl) (by first | exact jl_d0 hd rfl | omega) (by first | exact Nat.le_of_ble_eq_true rfl | omega) (by first | exact Nat.le_of_ble_eq_true rfl | omega) ?_
  refine s_X7_sum g (by first | exact jl_d1 hd rfl | omega) m2 (fun v2 h2  y2 => sg_K1 ?_)
  refine st_as (fun H r => jk_unR I1.1 r) ?_
  have I2 := jk_IM I1 y2
  refine sg_istore (pc := 1773) dL_law_1773 (by decide) ?_
  refine sg_goto (pc := 1775) (tgt := 2472) dL_law_1775 (by decide) ?_
  refine sg_lsub (lv' := [(0, _), (1, _), (2, _), (3, _), (4, _)]) ⟨rfl, rfl, rfl, rfl, rfl, trivial⟩ ?_
  exact K _ _ _ I2 (by omega) (by omega)

set_option maxRecDepth 100000 in
set_option maxHeartbeats 1000000 in
theorem lw_c38 {w : sg_W} {Q : sg_O → sg_H → Prop} {h : sg_H} (g : sg_G w) (nc : jk_C w) (hJ : jz w) {d mc ms : Nat} (hd : 30 ≤ d) {B M O S j k n : Nat} {xs : List Int} (hI : jk_I w B M O S xs h) (hj : 6 * j + 6 ≤ xs.length) (hl : xs.length ≤ 3072) (hk : k + 1030 ≤ mc) (hn : n + (48 + 0) ≤ ms) (K : ∀ (h' : sg_H) (k' n' : Nat), jk_I w B M O S xs h' → k' ≤ k + 1030 → n' ≤ n + (48 + 0) → sg_R w mi_L_law d mc ms Q 2472 [(0, sg_r S), (1, sg_r B), (2, sg_r M), (3, sg_r O), (4, sg_i (6 * (j : Int)))] [] h' k' n') : sg_R w mi_L_law d mc ms Q 1778 [(0, sg_r S), (1, sg_r B), (2, sg_r M), (3, sg_r O), (4, sg_i (6 * (j : Int)))] [] h k n := by
  refine sg_aload_n (pc := 1778) (j := 1) dL_law_1778 rfl rfl ?_
  refine sg_aload_n (pc := 1779) (j := 0) dL_law_1779 rfl rfl ?_
  refine sg_iload (pc := 1780) dL_law_1780 rfl ?_
  refine sg_iconst (pc := 1782) (z := 1) dL_law_1782 (by decide) ?_
  first | refine sg_iaddB (pc := 1783) dL_law_1783 (by omega) (by omega) ?_ | refine sg_iadd (pc := 1783) dL_law_1783 ?_
  refine sg_iald (pc := 1784) dL_law_1784 hI.2.2.2.2.2.2.2.2.2 rfl (by omega) (jk_x (by omega) (by omega)) ?_
  refine sg_aload_n (pc := 1785) (j := 3) dL_law_1785 rfl rfl ?_
  refine st_cS3 (pc := 1786) (d' := d - 1) (mc' := 8) (ms' := 48) g dL_law_1786 cb_L_values cw_L_values ml_L_318 ms_L_values (Nat.le_of_ble_eq_true rfl) (by first | exact jl_d0 hd rfl | omega) (by first | exact Nat.le_of_ble_eq_true rfl | omega) (by first | exact Nat.le_of_ble_eq_true rfl | omega) ?_
  refine s_L_values g nc (by omega) hI (fun v1 h1 I1 X1 => sg_K1 ?_)
  refine sg_istore (pc := 1789) dL_law_1789 (by decide) ?_
  refine sg_aload_n (pc := 1791) (j := 2) dL_law_1791 rfl rfl ?_
  refine sg_aload_n (pc := 1792) (j := 0) dL_law_1792 rfl rfl ?_
  refine sg_iload (pc := 1793) dL_law_1793 rfl ?_
  refine sg_iconst (pc := 1795) (z := 1) dL_law_1795 (by decide) ?_
  first | refine sg_iaddB (pc := 1796) dL_law_1796 (by omega) (by omega) ?_ | refine sg_iadd (pc := 1796) dL_law_1796 ?_
  refine sg_iald (pc := 1797) dL_law_1797 I1.2.2.2.2.2.2.2.2.2 rfl (by omega) (jk_x (by omega) (by omega)) ?_
  refine st_as (fun H r => jk_tgR (B := B) r) ?_
  have m2 := jk_Im I1
  refine sg_cE1 (pc := 1798) (d' := d - 1) (mc' := 0) (ms' := 0) 8 g dL_law_1798 cb_X7_values ml_L_320 mn_X7_values rfl mv_X7_values (Nat.le_of_ble_eq_true rfl) (md_oc m2) (Nat.le_of_ble_eq_true rfl) (by first | exact jl_d0 hd rfl | omega) (by first | exact Nat.le_of_ble_eq_true rfl | omega) (by first | exact Nat.le_of_ble_eq_true rfl | omega) ?_
  refine s_X7_values g (by first | exact jl_d1 hd rfl | omega) m2 (fun v2 h2  y2 => sg_K1 ?_)
  refine st_as (fun H r => jk_unR I1.1 r) ?_
  have I2 := jk_IM I1 y2
  refine sg_istore (pc := 1801) dL_law_1801 (by decide) ?_
  refine sg_goto (pc := 1803) (tgt := 2472) dL_law_1803 (by decide) ?_
  refine sg_lsub (lv' := [(0, _), (1, _), (2, _), (3, _), (4, _)]) ⟨rfl, rfl, rfl, rfl, rfl, trivial⟩ ?_
  exact K _ _ _ I2 (by omega) (by omega)

set_option maxRecDepth 100000 in
set_option maxHeartbeats 1000000 in
theorem lw_c39 {w : sg_W} {Q : sg_O → sg_H → Prop} {h : sg_H} (g : sg_G w) (nc : jk_C w) (hJ : jz w) {d mc ms : Nat} (hd : 30 ≤ d) {B M O S j k n : Nat} {xs : List Int} (hI : jk_I w B M O S xs h) (hj : 6 * j + 6 ≤ xs.length) (hl : xs.length ≤ 3072) (hk : k + 1030 ≤ mc) (hn : n + (48 + 90) ≤ ms) (K : ∀ (h' : sg_H) (k' n' : Nat), jk_I w B M O S xs h' → k' ≤ k + 1030 → n' ≤ n + (48 + 90) → sg_R w mi_L_law d mc ms Q 2472 [(0, sg_r S), (1, sg_r B), (2, sg_r M), (3, sg_r O), (4, sg_i (6 * (j : Int)))] [] h' k' n') : sg_R w mi_L_law d mc ms Q 1806 [(0, sg_r S), (1, sg_r B), (2, sg_r M), (3, sg_r O), (4, sg_i (6 * (j : Int)))] [] h k n := by
  refine sg_aload_n (pc := 1806) (j := 1) dL_law_1806 rfl rfl ?_
  refine sg_aload_n (pc := 1807) (j := 0) dL_law_1807 rfl rfl ?_
  refine sg_iload (pc := 1808) dL_law_1808 rfl ?_
  refine sg_iconst (pc := 1810) (z := 1) dL_law_1810 (by decide) ?_
  first | refine sg_iaddB (pc := 1811) dL_law_1811 (by omega) (by omega) ?_ | refine sg_iadd (pc := 1811) dL_law_1811 ?_
  refine sg_iald (pc := 1812) dL_law_1812 hI.2.2.2.2.2.2.2.2.2 rfl (by omega) (jk_x (by omega) (by omega)) ?_
  refine sg_aload_n (pc := 1813) (j := 3) dL_law_1813 rfl rfl ?_
  refine st_cS3 (pc := 1814) (d' := d - 1) (mc' := 8) (ms' := 48) g dL_law_1814 cb_L_words cw_L_words ml_L_321 ms_L_words (Nat.le_of_ble_eq_true rfl) (by first | exact jl_d0 hd rfl | omega) (by first | exact Nat.le_of_ble_eq_true rfl | omega) (by first | exact Nat.le_of_ble_eq_true rfl | omega) ?_
  refine s_L_words g nc (by omega) hI (fun v1 h1 I1 X1 => sg_K1 ?_)
  refine sg_istore (pc := 1817) dL_law_1817 (by decide) ?_
  refine sg_aload_n (pc := 1819) (j := 2) dL_law_1819 rfl rfl ?_
  refine sg_aload_n (pc := 1820) (j := 0) dL_law_1820 rfl rfl ?_
  refine sg_iload (pc := 1821) dL_law_1821 rfl ?_
  refine sg_iconst (pc := 1823) (z := 1) dL_law_1823 (by decide) ?_
  first | refine sg_iaddB (pc := 1824) dL_law_1824 (by omega) (by omega) ?_ | refine sg_iadd (pc := 1824) dL_law_1824 ?_
  refine sg_iald (pc := 1825) dL_law_1825 I1.2.2.2.2.2.2.2.2.2 rfl (by omega) (jk_x (by omega) (by omega)) ?_
  refine st_as (fun H r => jk_tgR (B := B) r) ?_
  have m2 := jk_Im I1
  refine sg_cE1 (pc := 1826) (d' := d - 1) (mc' := 24) (ms' := 90) 8 g dL_law_1826 cb_X7_words ml_L_323 mn_X7_words rfl mv_X7_words (Nat.le_of_ble_eq_true rfl) (md_oc m2) (Nat.le_of_ble_eq_true rfl) (by first | exact jl_d0 hd rfl | omega) (by first | exact Nat.le_of_ble_eq_true rfl | omega) (by first | exact Nat.le_of_ble_eq_true rfl | omega) ?_
  refine s_X7_words g (by first | exact jl_d1 hd rfl | omega) m2 (fun v2 h2  y2 => sg_K1 ?_)
  refine st_as (fun H r => jk_unR I1.1 r) ?_
  have I2 := jk_IM I1 y2
  refine sg_istore (pc := 1829) dL_law_1829 (by decide) ?_
  refine sg_goto (pc := 1831) (tgt := 2472) dL_law_1831 (by decide) ?_
  refine sg_lsub (lv' := [(0, _), (1, _), (2, _), (3, _), (4, _)]) ⟨rfl, rfl, rfl, rfl, rfl, trivial⟩ ?_
  exact K _ _ _ I2 (by omega) (by omega)

set_option maxRecDepth 100000 in
set_option maxHeartbeats 1000000 in
theorem lw_c40 {w : sg_W} {Q : sg_O → sg_H → Prop} {h : sg_H} (g : sg_G w) (nc : jk_C w) (hJ : jz w) {d mc ms : Nat} (hd : 30 ≤ d) {B M O S j k n : Nat} {xs : List Int} (hI : jk_I w B M O S xs h) (hj : 6 * j + 6 ≤ xs.length) (hl : xs.length ≤ 3072) (hk : k + 1030 ≤ mc) (hn : n + (48 + 180) ≤ ms) (K : ∀ (h' : sg_H) (k' n' : Nat), jk_I w B M O S xs h' → k' ≤ k + 1030 → n' ≤ n + (48 + 180) → sg_R w mi_L_law d mc ms Q 2472 [(0, sg_r S), (1, sg_r B), (2, sg_r M), (3, sg_r O), (4, sg_i (6 * (j : Int)))] [] h' k' n') : sg_R w mi_L_law d mc ms Q 1834 [(0, sg_r S), (1, sg_r B), (2, sg_r M), (3, sg_r O), (4, sg_i (6 * (j : Int)))] [] h k n := by
  refine sg_aload_n (pc := 1834) (j := 1) dL_law_1834 rfl rfl ?_
  refine sg_aload_n (pc := 1835) (j := 0) dL_law_1835 rfl rfl ?_
  refine sg_iload (pc := 1836) dL_law_1836 rfl ?_
  refine sg_iconst (pc := 1838) (z := 1) dL_law_1838 (by decide) ?_
  first | refine sg_iaddB (pc := 1839) dL_law_1839 (by omega) (by omega) ?_ | refine sg_iadd (pc := 1839) dL_law_1839 ?_
  refine sg_iald (pc := 1840) dL_law_1840 hI.2.2.2.2.2.2.2.2.2 rfl (by omega) (jk_x (by omega) (by omega)) ?_
  refine sg_aload_n (pc := 1841) (j := 0) dL_law_1841 rfl rfl ?_
  refine sg_iload (pc := 1842) dL_law_1842 rfl ?_
  refine sg_iconst (pc := 1844) (z := 2) dL_law_1844 (by decide) ?_
  first | refine sg_iaddB (pc := 1845) dL_law_1845 (by omega) (by omega) ?_ | refine sg_iadd (pc := 1845) dL_law_1845 ?_
  refine sg_iald (pc := 1846) dL_law_1846 hI.2.2.2.2.2.2.2.2.2 rfl (by omega) (jk_x (by omega) (by omega)) ?_
  refine sg_aload_n (pc := 1847) (j := 0) dL_law_1847 rfl rfl ?_
  refine sg_iload (pc := 1848) dL_law_1848 rfl ?_
  refine sg_iconst (pc := 1850) (z := 3) dL_law_1850 (by decide) ?_
  first | refine sg_iaddB (pc := 1851) dL_law_1851 (by omega) (by omega) ?_ | refine sg_iadd (pc := 1851) dL_law_1851 ?_
  refine sg_iald (pc := 1852) dL_law_1852 hI.2.2.2.2.2.2.2.2.2 rfl (by omega) (jk_x (by omega) (by omega)) ?_
  refine sg_if_eq (pc := 1853) (tgt := 1860) dL_law_1853 (by decide) (fun c1853 => ?_) (fun c1853 => ?_)
  · refine sg_iconst (pc := 1860) (z := 0) dL_law_1860 (by decide) ?_
    refine sg_aload_n (pc := 1861) (j := 3) dL_law_1861 rfl rfl ?_
    refine st_cS5 (pc := 1862) (d' := d - 1) (mc' := 8) (ms' := 48) g dL_law_1862 cb_L_word cw_L_word ml_L_324 ms_L_word (Nat.le_of_ble_eq_true rfl) (by first | exact jl_d0 hd rfl | omega) (by first | exact Nat.le_of_ble_eq_true rfl | omega) (by first | exact Nat.le_of_ble_eq_true rfl | omega) ?_
    refine s_L_word g nc (by omega) hI (fun v1 h1 I1 X1 => sg_K1 ?_)
    refine sg_istore (pc := 1865) dL_law_1865 (by decide) ?_
    refine sg_aload_n (pc := 1867) (j := 2) dL_law_1867 rfl rfl ?_
    refine sg_aload_n (pc := 1868) (j := 0) dL_law_1868 rfl rfl ?_
    refine sg_iload (pc := 1869) dL_law_1869 rfl ?_
    refine sg_iconst (pc := 1871) (z := 1) dL_law_1871 (by decide) ?_
    first | refine sg_iaddB (pc := 1872) dL_law_1872 (by omega) (by omega) ?_ | refine sg_iadd (pc := 1872) dL_law_1872 ?_
    refine sg_iald (pc := 1873) dL_law_1873 I1.2.2.2.2.2.2.2.2.2 rfl (by omega) (jk_x (by omega) (by omega)) ?_
    refine sg_aload_n (pc := 1874) (j := 0) dL_law_1874 rfl rfl ?_
    refine sg_iload (pc := 1875) dL_law_1875 rfl ?_
    refine sg_iconst (pc := 1877) (z := 2) dL_law_1877 (by decide) ?_
    first | refine sg_iaddB (pc := 1878) dL_law_1878 (by omega) (by omega) ?_ | refine sg_iadd (pc := 1878) dL_law_1878 ?_
    refine sg_iald (pc := 1879) dL_law_1879 I1.2.2.2.2.2.2.2.2.2 rfl (by omega) (jk_x (by omega) (by omega)) ?_
    refine sg_aload_n (pc := 1880) (j := 0) dL_law_1880 rfl rfl ?_
    refine sg_iload (pc := 1881) dL_law_1881 rfl ?_
    refine sg_iconst (pc := 1883) (z := 3) dL_law_1883 (by decide) ?_
    first | refine sg_iaddB (pc := 1884) dL_law_1884 (by omega) (by omega) ?_ | refine sg_iadd (pc := 1884) dL_law_1884 ?_
    refine sg_iald (pc := 1885) dL_law_1885 I1.2.2.2.2.2.2.2.2.2 rfl (by omega) (jk_x (by omega) (by omega)) ?_
    refine sg_if_eq (pc := 1886) (tgt := 1893) dL_law_1886 (by decide) (fun c1886 => ?_) (fun c1886 => ?_)
    · refine sg_iconst (pc := 1893) (z := 0) dL_law_1893 (by decide) ?_
      refine st_as (fun H r => jk_tgR (B := B) r) ?_
      have m2 := jk_Im I1
      refine sg_cE3 (pc := 1894) (d' := d - 1) (mc' := 48) (ms' := 180) 8 g dL_law_1894 cb_X7_word ml_L_326 mn_X7_word rfl mv_X7_word (Nat.le_of_ble_eq_true rfl) (md_oc m2) (Nat.le_of_ble_eq_true rfl) (by first | exact jl_d0 hd rfl | omega) (by first | exact Nat.le_of_ble_eq_true rfl | omega) (by first | exact Nat.le_of_ble_eq_true rfl | omega) ?_
      refine s_X7_word g (by first | exact jl_d1 hd rfl | omega) m2 (fun v2 h2  y2 => sg_K1 ?_)
      refine st_as (fun H r => jk_unR I1.1 r) ?_
      have I2 := jk_IM I1 y2
      refine sg_istore (pc := 1897) dL_law_1897 (by decide) ?_
      refine sg_goto (pc := 1899) (tgt := 2472) dL_law_1899 (by decide) ?_
      refine sg_lsub (lv' := [(0, _), (1, _), (2, _), (3, _), (4, _)]) ⟨rfl, rfl, rfl, rfl, rfl, trivial⟩ ?_
      exact K _ _ _ I2 (by omega) (by omega)
    · refine sg_iconst (pc := 1889) (z := 1) dL_law_1889 (by decide) ?_
      refine sg_goto (pc := 1890) (tgt := 1894) dL_law_1890 (by decide) ?_
      refine st_as (fun H r => jk_tgR (B := B) r) ?_
      have m3 := jk_Im I1
      refine sg_cE3 (pc := 1894) (d' := d - 1) (mc' := 48) (ms' := 180) 8 g dL_law_1894 cb_X7_word ml_L_326 mn_X7_word rfl mv_X7_word (Nat.le_of_ble_eq_true rfl) (md_oc m3) (Nat.le_of_ble_eq_true rfl) (by first | exact jl_d0 hd rfl | omega) (by first | exact Nat.le_of_ble_eq_true rfl | omega) (by first | exact Nat.le_of_ble_eq_true rfl | omega) ?_
      refine s_X7_word g (by first | exact jl_d1 hd rfl | omega) m3 (fun v3 h3  y3 => sg_K1 ?_)
      refine st_as (fun H r => jk_unR I1.1 r) ?_
      have I3 := jk_IM I1 y3
      refine sg_istore (pc := 1897) dL_law_1897 (by decide) ?_
      refine sg_goto (pc := 1899) (tgt := 2472) dL_law_1899 (by decide) ?_
      refine sg_lsub (lv' := [(0, _), (1, _), (2, _), (3, _), (4, _)]) ⟨rfl, rfl, rfl, rfl, rfl, trivial⟩ ?_
      exact K _ _ _ I3 (by omega) (by omega)
  · refine sg_iconst (pc := 1856) (z := 1) dL_law_1856 (by decide) ?_
    refine sg_goto (pc := 1857) (tgt := 1861) dL_law_1857 (by decide) ?_
    refine sg_aload_n (pc := 1861) (j := 3) dL_law_1861 rfl rfl ?_
    refine st_cS5 (pc := 1862) (d' := d - 1) (mc' := 8) (ms' := 48) g dL_law_1862 cb_L_word cw_L_word ml_L_324 ms_L_word (Nat.le_of_ble_eq_true rfl) (by first | exact jl_d0 hd rfl | omega) (by first | exact Nat.le_of_ble_eq_true rfl | omega) (by first | exact Nat.le_of_ble_eq_true rfl | omega) ?_
    refine s_L_word g nc (by omega) hI (fun v4 h4 I4 X4 => sg_K1 ?_)
    refine sg_istore (pc := 1865) dL_law_1865 (by decide) ?_
    refine sg_aload_n (pc := 1867) (j := 2) dL_law_1867 rfl rfl ?_
    refine sg_aload_n (pc := 1868) (j := 0) dL_law_1868 rfl rfl ?_
    refine sg_iload (pc := 1869) dL_law_1869 rfl ?_
    refine sg_iconst (pc := 1871) (z := 1) dL_law_1871 (by decide) ?_
    first | refine sg_iaddB (pc := 1872) dL_law_1872 (by omega) (by omega) ?_ | refine sg_iadd (pc := 1872) dL_law_1872 ?_
    refine sg_iald (pc := 1873) dL_law_1873 I4.2.2.2.2.2.2.2.2.2 rfl (by omega) (jk_x (by omega) (by omega)) ?_
    refine sg_aload_n (pc := 1874) (j := 0) dL_law_1874 rfl rfl ?_
    refine sg_iload (pc := 1875) dL_law_1875 rfl ?_
    refine sg_iconst (pc := 1877) (z := 2) dL_law_1877 (by decide) ?_
    first | refine sg_iaddB (pc := 1878) dL_law_1878 (by omega) (by omega) ?_ | refine sg_iadd (pc := 1878) dL_law_1878 ?_
    refine sg_iald (pc := 1879) dL_law_1879 I4.2.2.2.2.2.2.2.2.2 rfl (by omega) (jk_x (by omega) (by omega)) ?_
    refine sg_aload_n (pc := 1880) (j := 0) dL_law_1880 rfl rfl ?_
    refine sg_iload (pc := 1881) dL_law_1881 rfl ?_
    refine sg_iconst (pc := 1883) (z := 3) dL_law_1883 (by decide) ?_
    first | refine sg_iaddB (pc := 1884) dL_law_1884 (by omega) (by omega) ?_ | refine sg_iadd (pc := 1884) dL_law_1884 ?_
    refine sg_iald (pc := 1885) dL_law_1885 I4.2.2.2.2.2.2.2.2.2 rfl (by omega) (jk_x (by omega) (by omega)) ?_
    refine sg_if_eq (pc := 1886) (tgt := 1893) dL_law_1886 (by decide) (fun c1886 => ?_) (fun c1886 => ?_)
    · refine sg_iconst (pc := 1893) (z := 0) dL_law_1893 (by decide) ?_
      refine st_as (fun H r => jk_tgR (B := B) r) ?_
      have m5 := jk_Im I4
      refine sg_cE3 (pc := 1894) (d' := d - 1) (mc' := 48) (ms' := 180) 8 g dL_law_1894 cb_X7_word ml_L_326 mn_X7_word rfl mv_X7_word (Nat.le_of_ble_eq_true rfl) (md_oc m5) (Nat.le_of_ble_eq_true rfl) (by first | exact jl_d0 hd rfl | omega) (by first | exact Nat.le_of_ble_eq_true rfl | omega) (by first | exact Nat.le_of_ble_eq_true rfl | omega) ?_
      refine s_X7_word g (by first | exact jl_d1 hd rfl | omega) m5 (fun v5 h5  y5 => sg_K1 ?_)
      refine st_as (fun H r => jk_unR I4.1 r) ?_
      have I5 := jk_IM I4 y5
      refine sg_istore (pc := 1897) dL_law_1897 (by decide) ?_
      refine sg_goto (pc := 1899) (tgt := 2472) dL_law_1899 (by decide) ?_
      refine sg_lsub (lv' := [(0, _), (1, _), (2, _), (3, _), (4, _)]) ⟨rfl, rfl, rfl, rfl, rfl, trivial⟩ ?_
      exact K _ _ _ I5 (by omega) (by omega)
    · refine sg_iconst (pc := 1889) (z := 1) dL_law_1889 (by decide) ?_
      refine sg_goto (pc := 1890) (tgt := 1894) dL_law_1890 (by decide) ?_
      refine st_as (fun H r => jk_tgR (B := B) r) ?_
      have m6 := jk_Im I4
      refine sg_cE3 (pc := 1894) (d' := d - 1) (mc' := 48) (ms' := 180) 8 g dL_law_1894 cb_X7_word ml_L_326 mn_X7_word rfl mv_X7_word (Nat.le_of_ble_eq_true rfl) (md_oc m6) (Nat.le_of_ble_eq_true rfl) (by first | exact jl_d0 hd rfl | omega) (by first | exact Nat.le_of_ble_eq_true rfl | omega) (by first | exact Nat.le_of_ble_eq_true rfl | omega) ?_
      refine s_X7_word g (by first | exact jl_d1 hd rfl | omega) m6 (fun v6 h6  y6 => sg_K1 ?_)
      refine st_as (fun H r => jk_unR I4.1 r) ?_
      have I6 := jk_IM I4 y6
      refine sg_istore (pc := 1897) dL_law_1897 (by decide) ?_
      refine sg_goto (pc := 1899) (tgt := 2472) dL_law_1899 (by decide) ?_
      refine sg_lsub (lv' := [(0, _), (1, _), (2, _), (3, _), (4, _)]) ⟨rfl, rfl, rfl, rfl, rfl, trivial⟩ ?_
      exact K _ _ _ I6 (by omega) (by omega)

set_option maxRecDepth 100000 in
set_option maxHeartbeats 1000000 in
theorem lw_c41 {w : sg_W} {Q : sg_O → sg_H → Prop} {h : sg_H} (g : sg_G w) (nc : jk_C w) (hJ : jz w) {d mc ms : Nat} (hd : 30 ≤ d) {B M O S j k n : Nat} {xs : List Int} (hI : jk_I w B M O S xs h) (hj : 6 * j + 6 ≤ xs.length) (hl : xs.length ≤ 3072) (hk : k + 1030 ≤ mc) (hn : n + (48 + 0) ≤ ms) (K : ∀ (h' : sg_H) (k' n' : Nat), jk_I w B M O S xs h' → k' ≤ k + 1030 → n' ≤ n + (48 + 0) → sg_R w mi_L_law d mc ms Q 2472 [(0, sg_r S), (1, sg_r B), (2, sg_r M), (3, sg_r O), (4, sg_i (6 * (j : Int)))] [] h' k' n') : sg_R w mi_L_law d mc ms Q 1902 [(0, sg_r S), (1, sg_r B), (2, sg_r M), (3, sg_r O), (4, sg_i (6 * (j : Int)))] [] h k n := by
  refine sg_aload_n (pc := 1902) (j := 1) dL_law_1902 rfl rfl ?_
  refine sg_aload_n (pc := 1903) (j := 0) dL_law_1903 rfl rfl ?_
  refine sg_iload (pc := 1904) dL_law_1904 rfl ?_
  refine sg_iconst (pc := 1906) (z := 1) dL_law_1906 (by decide) ?_
  first | refine sg_iaddB (pc := 1907) dL_law_1907 (by omega) (by omega) ?_ | refine sg_iadd (pc := 1907) dL_law_1907 ?_
  refine sg_iald (pc := 1908) dL_law_1908 hI.2.2.2.2.2.2.2.2.2 rfl (by omega) (jk_x (by omega) (by omega)) ?_
  refine sg_aload_n (pc := 1909) (j := 0) dL_law_1909 rfl rfl ?_
  refine sg_iload (pc := 1910) dL_law_1910 rfl ?_
  refine sg_iconst (pc := 1912) (z := 2) dL_law_1912 (by decide) ?_
  first | refine sg_iaddB (pc := 1913) dL_law_1913 (by omega) (by omega) ?_ | refine sg_iadd (pc := 1913) dL_law_1913 ?_
  refine sg_iald (pc := 1914) dL_law_1914 hI.2.2.2.2.2.2.2.2.2 rfl (by omega) (jk_x (by omega) (by omega)) ?_
  refine sg_aload_n (pc := 1915) (j := 3) dL_law_1915 rfl rfl ?_
  refine st_cS4 (pc := 1916) (d' := d - 1) (mc' := 8) (ms' := 48) g dL_law_1916 cb_L_isAlike cw_L_isAlike ml_L_327 ms_L_isAlike (Nat.le_of_ble_eq_true rfl) (by first | exact jl_d0 hd rfl | omega) (by first | exact Nat.le_of_ble_eq_true rfl | omega) (by first | exact Nat.le_of_ble_eq_true rfl | omega) ?_
  refine s_L_isAlike g nc (by omega) hI (fun v1 h1 I1 X1 => sg_K1 ?_)
  refine sg_istore (pc := 1919) dL_law_1919 (by decide) ?_
  refine sg_aload_n (pc := 1921) (j := 2) dL_law_1921 rfl rfl ?_
  refine sg_aload_n (pc := 1922) (j := 0) dL_law_1922 rfl rfl ?_
  refine sg_iload (pc := 1923) dL_law_1923 rfl ?_
  refine sg_iconst (pc := 1925) (z := 1) dL_law_1925 (by decide) ?_
  first | refine sg_iaddB (pc := 1926) dL_law_1926 (by omega) (by omega) ?_ | refine sg_iadd (pc := 1926) dL_law_1926 ?_
  refine sg_iald (pc := 1927) dL_law_1927 I1.2.2.2.2.2.2.2.2.2 rfl (by omega) (jk_x (by omega) (by omega)) ?_
  refine sg_aload_n (pc := 1928) (j := 0) dL_law_1928 rfl rfl ?_
  refine sg_iload (pc := 1929) dL_law_1929 rfl ?_
  refine sg_iconst (pc := 1931) (z := 2) dL_law_1931 (by decide) ?_
  first | refine sg_iaddB (pc := 1932) dL_law_1932 (by omega) (by omega) ?_ | refine sg_iadd (pc := 1932) dL_law_1932 ?_
  refine sg_iald (pc := 1933) dL_law_1933 I1.2.2.2.2.2.2.2.2.2 rfl (by omega) (jk_x (by omega) (by omega)) ?_
  refine st_as (fun H r => jk_tgR (B := B) r) ?_
  have m2 := jk_Im I1
  refine sg_cE2 (pc := 1934) (d' := d - 1) (mc' := 0) (ms' := 0) 8 g dL_law_1934 cb_X7_isAlike ml_L_329 mn_X7_isAlike rfl mv_X7_isAlike (Nat.le_of_ble_eq_true rfl) (md_oc m2) (Nat.le_of_ble_eq_true rfl) (by first | exact jl_d0 hd rfl | omega) (by first | exact Nat.le_of_ble_eq_true rfl | omega) (by first | exact Nat.le_of_ble_eq_true rfl | omega) ?_
  refine s_X7_isAlike g (by first | exact jl_d1 hd rfl | omega) m2 (fun v2 h2 c2_0 y2 => sg_K1 ?_)
  refine st_as (fun H r => jk_unR I1.1 r) ?_
  have I2 := jk_IM I1 y2
  refine sg_istore (pc := 1937) dL_law_1937 (by decide) ?_
  refine sg_goto (pc := 1939) (tgt := 2472) dL_law_1939 (by decide) ?_
  refine sg_lsub (lv' := [(0, _), (1, _), (2, _), (3, _), (4, _)]) ⟨rfl, rfl, rfl, rfl, rfl, trivial⟩ ?_
  exact K _ _ _ I2 (by omega) (by omega)

set_option maxRecDepth 100000 in
set_option maxHeartbeats 1000000 in
theorem lw_c42 {w : sg_W} {Q : sg_O → sg_H → Prop} {h : sg_H} (g : sg_G w) (nc : jk_C w) (hJ : jz w) {d mc ms : Nat} (hd : 30 ≤ d) {B M O S j k n : Nat} {xs : List Int} (hI : jk_I w B M O S xs h) (hj : 6 * j + 6 ≤ xs.length) (hl : xs.length ≤ 3072) (hk : k + 1030 ≤ mc) (hn : n + (48 + 0) ≤ ms) (K : ∀ (h' : sg_H) (k' n' : Nat), jk_I w B M O S xs h' → k' ≤ k + 1030 → n' ≤ n + (48 + 0) → sg_R w mi_L_law d mc ms Q 2472 [(0, sg_r S), (1, sg_r B), (2, sg_r M), (3, sg_r O), (4, sg_i (6 * (j : Int)))] [] h' k' n') : sg_R w mi_L_law d mc ms Q 1942 [(0, sg_r S), (1, sg_r B), (2, sg_r M), (3, sg_r O), (4, sg_i (6 * (j : Int)))] [] h k n := by
  refine sg_aload_n (pc := 1942) (j := 1) dL_law_1942 rfl rfl ?_
  refine sg_aload_n (pc := 1943) (j := 0) dL_law_1943 rfl rfl ?_
  refine sg_iload (pc := 1944) dL_law_1944 rfl ?_
  refine sg_iconst (pc := 1946) (z := 1) dL_law_1946 (by decide) ?_
  first | refine sg_iaddB (pc := 1947) dL_law_1947 (by omega) (by omega) ?_ | refine sg_iadd (pc := 1947) dL_law_1947 ?_
  refine sg_iald (pc := 1948) dL_law_1948 hI.2.2.2.2.2.2.2.2.2 rfl (by omega) (jk_x (by omega) (by omega)) ?_
  refine sg_aload_n (pc := 1949) (j := 0) dL_law_1949 rfl rfl ?_
  refine sg_iload (pc := 1950) dL_law_1950 rfl ?_
  refine sg_iconst (pc := 1952) (z := 2) dL_law_1952 (by decide) ?_
  first | refine sg_iaddB (pc := 1953) dL_law_1953 (by omega) (by omega) ?_ | refine sg_iadd (pc := 1953) dL_law_1953 ?_
  refine sg_iald (pc := 1954) dL_law_1954 hI.2.2.2.2.2.2.2.2.2 rfl (by omega) (jk_x (by omega) (by omega)) ?_
  refine sg_aload_n (pc := 1955) (j := 3) dL_law_1955 rfl rfl ?_
  refine st_cS4 (pc := 1956) (d' := d - 1) (mc' := 8) (ms' := 48) g dL_law_1956 cb_L_order cw_L_order ml_L_330 ms_L_order (Nat.le_of_ble_eq_true rfl) (by first | exact jl_d0 hd rfl | omega) (by first | exact Nat.le_of_ble_eq_true rfl | omega) (by first | exact Nat.le_of_ble_eq_true rfl | omega) ?_
  refine s_L_order g nc (by omega) hI (fun v1 h1 I1 X1 => sg_K1 ?_)
  refine sg_istore (pc := 1959) dL_law_1959 (by decide) ?_
  refine sg_aload_n (pc := 1961) (j := 2) dL_law_1961 rfl rfl ?_
  refine sg_aload_n (pc := 1962) (j := 0) dL_law_1962 rfl rfl ?_
  refine sg_iload (pc := 1963) dL_law_1963 rfl ?_
  refine sg_iconst (pc := 1965) (z := 1) dL_law_1965 (by decide) ?_
  first | refine sg_iaddB (pc := 1966) dL_law_1966 (by omega) (by omega) ?_ | refine sg_iadd (pc := 1966) dL_law_1966 ?_
  refine sg_iald (pc := 1967) dL_law_1967 I1.2.2.2.2.2.2.2.2.2 rfl (by omega) (jk_x (by omega) (by omega)) ?_
  refine sg_aload_n (pc := 1968) (j := 0) dL_law_1968 rfl rfl ?_
  refine sg_iload (pc := 1969) dL_law_1969 rfl ?_
  refine sg_iconst (pc := 1971) (z := 2) dL_law_1971 (by decide) ?_
  first | refine sg_iaddB (pc := 1972) dL_law_1972 (by omega) (by omega) ?_ | refine sg_iadd (pc := 1972) dL_law_1972 ?_
  refine sg_iald (pc := 1973) dL_law_1973 I1.2.2.2.2.2.2.2.2.2 rfl (by omega) (jk_x (by omega) (by omega)) ?_
  refine st_as (fun H r => jk_tgR (B := B) r) ?_
  have m2 := jk_Im I1
  refine sg_cE2 (pc := 1974) (d' := d - 1) (mc' := 0) (ms' := 0) 8 g dL_law_1974 cb_X7_order ml_L_332 mn_X7_order rfl mv_X7_order (Nat.le_of_ble_eq_true rfl) (md_oc m2) (Nat.le_of_ble_eq_true rfl) (by first | exact jl_d0 hd rfl | omega) (by first | exact Nat.le_of_ble_eq_true rfl | omega) (by first | exact Nat.le_of_ble_eq_true rfl | omega) ?_
  refine s_X7_order g (by first | exact jl_d1 hd rfl | omega) m2 (fun v2 h2  y2 => sg_K1 ?_)
  refine st_as (fun H r => jk_unR I1.1 r) ?_
  have I2 := jk_IM I1 y2
  refine sg_istore (pc := 1977) dL_law_1977 (by decide) ?_
  refine sg_goto (pc := 1979) (tgt := 2472) dL_law_1979 (by decide) ?_
  refine sg_lsub (lv' := [(0, _), (1, _), (2, _), (3, _), (4, _)]) ⟨rfl, rfl, rfl, rfl, rfl, trivial⟩ ?_
  exact K _ _ _ I2 (by omega) (by omega)

set_option maxRecDepth 100000 in
set_option maxHeartbeats 1000000 in
theorem lw_c43 {w : sg_W} {Q : sg_O → sg_H → Prop} {h : sg_H} (g : sg_G w) (nc : jk_C w) (hJ : jz w) {d mc ms : Nat} (hd : 30 ≤ d) {B M O S j k n : Nat} {xs : List Int} (hI : jk_I w B M O S xs h) (hj : 6 * j + 6 ≤ xs.length) (hl : xs.length ≤ 3072) (hk : k + 1030 ≤ mc) (hn : n + (0 + 0) ≤ ms) (K : ∀ (h' : sg_H) (k' n' : Nat), jk_I w B M O S xs h' → k' ≤ k + 1030 → n' ≤ n + (0 + 0) → sg_R w mi_L_law d mc ms Q 2472 [(0, sg_r S), (1, sg_r B), (2, sg_r M), (3, sg_r O), (4, sg_i (6 * (j : Int)))] [] h' k' n') : sg_R w mi_L_law d mc ms Q 1982 [(0, sg_r S), (1, sg_r B), (2, sg_r M), (3, sg_r O), (4, sg_i (6 * (j : Int)))] [] h k n := by
  refine sg_aload_n (pc := 1982) (j := 1) dL_law_1982 rfl rfl ?_
  refine sg_aload_n (pc := 1983) (j := 0) dL_law_1983 rfl rfl ?_
  refine sg_iload (pc := 1984) dL_law_1984 rfl ?_
  refine sg_iconst (pc := 1986) (z := 1) dL_law_1986 (by decide) ?_
  first | refine sg_iaddB (pc := 1987) dL_law_1987 (by omega) (by omega) ?_ | refine sg_iadd (pc := 1987) dL_law_1987 ?_
  refine sg_iald (pc := 1988) dL_law_1988 hI.2.2.2.2.2.2.2.2.2 rfl (by omega) (jk_x (by omega) (by omega)) ?_
  refine sg_cE1 (pc := 1989) (d' := d - 1) (mc' := 0) (ms' := 0) 6 g dL_law_1989 cb_X5_isCode ml_L_333 mn_X5_isCode rfl mv_X5_isCode (Nat.le_of_ble_eq_true rfl) (ck_oc hI.2.2.1) (Nat.le_of_ble_eq_true rfl) (by first | exact jl_d0 hd rfl | omega) (by first | exact Nat.le_of_ble_eq_true rfl | omega) (by first | exact Nat.le_of_ble_eq_true rfl | omega) ?_
  refine s_X5_isCode (B := B) g (by first | exact jl_d1 hd rfl | omega) (fun v1 c1 => sg_K1 ?_)
  refine sg_pop (pc := 1992) dL_law_1992 rfl ?_
  refine sg_aload_n (pc := 1993) (j := 2) dL_law_1993 rfl rfl ?_
  refine sg_aload_n (pc := 1994) (j := 0) dL_law_1994 rfl rfl ?_
  refine sg_iload (pc := 1995) dL_law_1995 rfl ?_
  refine sg_iconst (pc := 1997) (z := 1) dL_law_1997 (by decide) ?_
  first | refine sg_iaddB (pc := 1998) dL_law_1998 (by omega) (by omega) ?_ | refine sg_iadd (pc := 1998) dL_law_1998 ?_
  refine sg_iald (pc := 1999) dL_law_1999 hI.2.2.2.2.2.2.2.2.2 rfl (by omega) (jk_x (by omega) (by omega)) ?_
  refine st_as (fun H r => jk_tgR (B := B) r) ?_
  have m2 := jk_Im hI
  refine sg_cE1 (pc := 2000) (d' := d - 1) (mc' := 0) (ms' := 0) 8 g dL_law_2000 cb_X7_isCode ml_L_336 mn_X7_isCode rfl mv_X7_isCode (Nat.le_of_ble_eq_true rfl) (md_oc m2) (Nat.le_of_ble_eq_true rfl) (by first | exact jl_d0 hd rfl | omega) (by first | exact Nat.le_of_ble_eq_true rfl | omega) (by first | exact Nat.le_of_ble_eq_true rfl | omega) ?_
  refine s_X7_isCode g (by first | exact jl_d1 hd rfl | omega) m2 (fun v2 h2 c2_0 c2_1 y2 => sg_K1 ?_)
  refine st_as (fun H r => jk_unR hI.1 r) ?_
  have I2 := jk_IM hI y2
  refine sg_pop (pc := 2003) dL_law_2003 rfl ?_
  refine sg_goto (pc := 2004) (tgt := 2472) dL_law_2004 (by decide) ?_
  refine sg_lsub (lv' := [(0, _), (1, _), (2, _), (3, _), (4, _)]) ⟨rfl, rfl, rfl, rfl, rfl, trivial⟩ ?_
  exact K _ _ _ I2 (by omega) (by omega)

set_option maxRecDepth 100000 in
set_option maxHeartbeats 1000000 in
theorem lw_c44 {w : sg_W} {Q : sg_O → sg_H → Prop} {h : sg_H} (g : sg_G w) (nc : jk_C w) (hJ : jz w) {d mc ms : Nat} (hd : 30 ≤ d) {B M O S j k n : Nat} {xs : List Int} (hI : jk_I w B M O S xs h) (hj : 6 * j + 6 ≤ xs.length) (hl : xs.length ≤ 3072) (hk : k + 1030 ≤ mc) (hn : n + (0 + 0) ≤ ms) (K : ∀ (h' : sg_H) (k' n' : Nat), jk_I w B M O S xs h' → k' ≤ k + 1030 → n' ≤ n + (0 + 0) → sg_R w mi_L_law d mc ms Q 2472 [(0, sg_r S), (1, sg_r B), (2, sg_r M), (3, sg_r O), (4, sg_i (6 * (j : Int)))] [] h' k' n') : sg_R w mi_L_law d mc ms Q 2007 [(0, sg_r S), (1, sg_r B), (2, sg_r M), (3, sg_r O), (4, sg_i (6 * (j : Int)))] [] h k n := by
  refine sg_aload_n (pc := 2007) (j := 1) dL_law_2007 rfl rfl ?_
  refine sg_aload_n (pc := 2008) (j := 0) dL_law_2008 rfl rfl ?_
  refine sg_iload (pc := 2009) dL_law_2009 rfl ?_
  refine sg_iconst (pc := 2011) (z := 1) dL_law_2011 (by decide) ?_
  first | refine sg_iaddB (pc := 2012) dL_law_2012 (by omega) (by omega) ?_ | refine sg_iadd (pc := 2012) dL_law_2012 ?_
  refine sg_iald (pc := 2013) dL_law_2013 hI.2.2.2.2.2.2.2.2.2 rfl (by omega) (jk_x (by omega) (by omega)) ?_
  refine sg_cE1 (pc := 2014) (d' := d - 1) (mc' := 0) (ms' := 0) 6 g dL_law_2014 cb_X5_isPlain ml_L_337 mn_X5_isPlain rfl mv_X5_isPlain (Nat.le_of_ble_eq_true rfl) (ck_oc hI.2.2.1) (Nat.le_of_ble_eq_true rfl) (by first | exact jl_d0 hd rfl | omega) (by first | exact Nat.le_of_ble_eq_true rfl | omega) (by first | exact Nat.le_of_ble_eq_true rfl | omega) ?_
  refine s_X5_isPlain (B := B) g (by first | exact jl_d1 hd rfl | omega) (fun v1 c1 => sg_K1 ?_)
  refine sg_pop (pc := 2017) dL_law_2017 rfl ?_
  refine sg_aload_n (pc := 2018) (j := 2) dL_law_2018 rfl rfl ?_
  refine sg_aload_n (pc := 2019) (j := 0) dL_law_2019 rfl rfl ?_
  refine sg_iload (pc := 2020) dL_law_2020 rfl ?_
  refine sg_iconst (pc := 2022) (z := 1) dL_law_2022 (by decide) ?_
  first | refine sg_iaddB (pc := 2023) dL_law_2023 (by omega) (by omega) ?_ | refine sg_iadd (pc := 2023) dL_law_2023 ?_
  refine sg_iald (pc := 2024) dL_law_2024 hI.2.2.2.2.2.2.2.2.2 rfl (by omega) (jk_x (by omega) (by omega)) ?_
  refine st_as (fun H r => jk_tgR (B := B) r) ?_
  have m2 := jk_Im hI
  refine sg_cE1 (pc := 2025) (d' := d - 1) (mc' := 0) (ms' := 0) 8 g dL_law_2025 cb_X7_isPlain ml_L_340 mn_X7_isPlain rfl mv_X7_isPlain (Nat.le_of_ble_eq_true rfl) (md_oc m2) (Nat.le_of_ble_eq_true rfl) (by first | exact jl_d0 hd rfl | omega) (by first | exact Nat.le_of_ble_eq_true rfl | omega) (by first | exact Nat.le_of_ble_eq_true rfl | omega) ?_
  refine s_X7_isPlain g (by first | exact jl_d1 hd rfl | omega) m2 (fun v2 h2 c2_0 c2_1 y2 => sg_K1 ?_)
  refine st_as (fun H r => jk_unR hI.1 r) ?_
  have I2 := jk_IM hI y2
  refine sg_pop (pc := 2028) dL_law_2028 rfl ?_
  refine sg_goto (pc := 2029) (tgt := 2472) dL_law_2029 (by decide) ?_
  refine sg_lsub (lv' := [(0, _), (1, _), (2, _), (3, _), (4, _)]) ⟨rfl, rfl, rfl, rfl, rfl, trivial⟩ ?_
  exact K _ _ _ I2 (by omega) (by omega)

set_option maxRecDepth 100000 in
set_option maxHeartbeats 1000000 in
theorem lw_c45 {w : sg_W} {Q : sg_O → sg_H → Prop} {h : sg_H} (g : sg_G w) (nc : jk_C w) (hJ : jz w) {d mc ms : Nat} (hd : 30 ≤ d) {B M O S j k n : Nat} {xs : List Int} (hI : jk_I w B M O S xs h) (hj : 6 * j + 6 ≤ xs.length) (hl : xs.length ≤ 3072) (hk : k + 1030 ≤ mc) (hn : n + (0 + 0) ≤ ms) (K : ∀ (h' : sg_H) (k' n' : Nat), jk_I w B M O S xs h' → k' ≤ k + 1030 → n' ≤ n + (0 + 0) → sg_R w mi_L_law d mc ms Q 2472 [(0, sg_r S), (1, sg_r B), (2, sg_r M), (3, sg_r O), (4, sg_i (6 * (j : Int)))] [] h' k' n') : sg_R w mi_L_law d mc ms Q 2032 [(0, sg_r S), (1, sg_r B), (2, sg_r M), (3, sg_r O), (4, sg_i (6 * (j : Int)))] [] h k n := by
  refine sg_aload_n (pc := 2032) (j := 1) dL_law_2032 rfl rfl ?_
  refine sg_aload_n (pc := 2033) (j := 0) dL_law_2033 rfl rfl ?_
  refine sg_iload (pc := 2034) dL_law_2034 rfl ?_
  refine sg_iconst (pc := 2036) (z := 1) dL_law_2036 (by decide) ?_
  first | refine sg_iaddB (pc := 2037) dL_law_2037 (by omega) (by omega) ?_ | refine sg_iadd (pc := 2037) dL_law_2037 ?_
  refine sg_iald (pc := 2038) dL_law_2038 hI.2.2.2.2.2.2.2.2.2 rfl (by omega) (jk_x (by omega) (by omega)) ?_
  refine sg_cE1 (pc := 2039) (d' := d - 1) (mc' := 0) (ms' := 0) 6 g dL_law_2039 cb_X5_isWide ml_L_341 mn_X5_isWide rfl mv_X5_isWide (Nat.le_of_ble_eq_true rfl) (ck_oc hI.2.2.1) (Nat.le_of_ble_eq_true rfl) (by first | exact jl_d0 hd rfl | omega) (by first | exact Nat.le_of_ble_eq_true rfl | omega) (by first | exact Nat.le_of_ble_eq_true rfl | omega) ?_
  refine s_X5_isWide (B := B) g (by first | exact jl_d1 hd rfl | omega) (fun v1 c1 => sg_K1 ?_)
  refine sg_pop (pc := 2042) dL_law_2042 rfl ?_
  refine sg_aload_n (pc := 2043) (j := 2) dL_law_2043 rfl rfl ?_
  refine sg_aload_n (pc := 2044) (j := 0) dL_law_2044 rfl rfl ?_
  refine sg_iload (pc := 2045) dL_law_2045 rfl ?_
  refine sg_iconst (pc := 2047) (z := 1) dL_law_2047 (by decide) ?_
  first | refine sg_iaddB (pc := 2048) dL_law_2048 (by omega) (by omega) ?_ | refine sg_iadd (pc := 2048) dL_law_2048 ?_
  refine sg_iald (pc := 2049) dL_law_2049 hI.2.2.2.2.2.2.2.2.2 rfl (by omega) (jk_x (by omega) (by omega)) ?_
  refine st_as (fun H r => jk_tgR (B := B) r) ?_
  have m2 := jk_Im hI
  refine sg_cE1 (pc := 2050) (d' := d - 1) (mc' := 0) (ms' := 0) 8 g dL_law_2050 cb_X7_isWide ml_L_344 mn_X7_isWide rfl mv_X7_isWide (Nat.le_of_ble_eq_true rfl) (md_oc m2) (Nat.le_of_ble_eq_true rfl) (by first | exact jl_d0 hd rfl | omega) (by first | exact Nat.le_of_ble_eq_true rfl | omega) (by first | exact Nat.le_of_ble_eq_true rfl | omega) ?_
  refine s_X7_isWide g (by first | exact jl_d1 hd rfl | omega) m2 (fun v2 h2 c2_0 c2_1 y2 => sg_K1 ?_)
  refine st_as (fun H r => jk_unR hI.1 r) ?_
  have I2 := jk_IM hI y2
  refine sg_pop (pc := 2053) dL_law_2053 rfl ?_
  refine sg_goto (pc := 2054) (tgt := 2472) dL_law_2054 (by decide) ?_
  refine sg_lsub (lv' := [(0, _), (1, _), (2, _), (3, _), (4, _)]) ⟨rfl, rfl, rfl, rfl, rfl, trivial⟩ ?_
  exact K _ _ _ I2 (by omega) (by omega)

set_option maxRecDepth 100000 in
set_option maxHeartbeats 1000000 in
theorem lw_c46 {w : sg_W} {Q : sg_O → sg_H → Prop} {h : sg_H} (g : sg_G w) (nc : jk_C w) (hJ : jz w) {d mc ms : Nat} (hd : 30 ≤ d) {B M O S j k n : Nat} {xs : List Int} (hI : jk_I w B M O S xs h) (hj : 6 * j + 6 ≤ xs.length) (hl : xs.length ≤ 3072) (hk : k + 1030 ≤ mc) (hn : n + (0 + 0) ≤ ms) (K : ∀ (h' : sg_H) (k' n' : Nat), jk_I w B M O S xs h' → k' ≤ k + 1030 → n' ≤ n + (0 + 0) → sg_R w mi_L_law d mc ms Q 2472 [(0, sg_r S), (1, sg_r B), (2, sg_r M), (3, sg_r O), (4, sg_i (6 * (j : Int)))] [] h' k' n') : sg_R w mi_L_law d mc ms Q 2057 [(0, sg_r S), (1, sg_r B), (2, sg_r M), (3, sg_r O), (4, sg_i (6 * (j : Int)))] [] h k n := by
  refine sg_aload_n (pc := 2057) (j := 1) dL_law_2057 rfl rfl ?_
  refine sg_aload_n (pc := 2058) (j := 0) dL_law_2058 rfl rfl ?_
  refine sg_iload (pc := 2059) dL_law_2059 rfl ?_
  refine sg_iconst (pc := 2061) (z := 1) dL_law_2061 (by decide) ?_
  first | refine sg_iaddB (pc := 2062) dL_law_2062 (by omega) (by omega) ?_ | refine sg_iadd (pc := 2062) dL_law_2062 ?_
  refine sg_iald (pc := 2063) dL_law_2063 hI.2.2.2.2.2.2.2.2.2 rfl (by omega) (jk_x (by omega) (by omega)) ?_
  refine sg_cE1 (pc := 2064) (d' := d - 1) (mc' := 0) (ms' := 0) 6 g dL_law_2064 cb_X5_units ml_L_345 mn_X5_units rfl mv_X5_units (Nat.le_of_ble_eq_true rfl) (ck_oc hI.2.2.1) (Nat.le_of_ble_eq_true rfl) (by first | exact jl_d0 hd rfl | omega) (by first | exact Nat.le_of_ble_eq_true rfl | omega) (by first | exact Nat.le_of_ble_eq_true rfl | omega) ?_
  refine s_X5_units (B := B) g (by first | exact jl_d1 hd rfl | omega) (fun v1 c1 => sg_K1 ?_)
  refine sg_pop (pc := 2067) dL_law_2067 rfl ?_
  refine sg_aload_n (pc := 2068) (j := 2) dL_law_2068 rfl rfl ?_
  refine sg_aload_n (pc := 2069) (j := 0) dL_law_2069 rfl rfl ?_
  refine sg_iload (pc := 2070) dL_law_2070 rfl ?_
  refine sg_iconst (pc := 2072) (z := 1) dL_law_2072 (by decide) ?_
  first | refine sg_iaddB (pc := 2073) dL_law_2073 (by omega) (by omega) ?_ | refine sg_iadd (pc := 2073) dL_law_2073 ?_
  refine sg_iald (pc := 2074) dL_law_2074 hI.2.2.2.2.2.2.2.2.2 rfl (by omega) (jk_x (by omega) (by omega)) ?_
  refine st_as (fun H r => jk_tgR (B := B) r) ?_
  have m2 := jk_Im hI
  refine sg_cE1 (pc := 2075) (d' := d - 1) (mc' := 0) (ms' := 0) 8 g dL_law_2075 cb_X7_units ml_L_348 mn_X7_units rfl mv_X7_units (Nat.le_of_ble_eq_true rfl) (md_oc m2) (Nat.le_of_ble_eq_true rfl) (by first | exact jl_d0 hd rfl | omega) (by first | exact Nat.le_of_ble_eq_true rfl | omega) (by first | exact Nat.le_of_ble_eq_true rfl | omega) ?_
  refine s_X7_units g (by first | exact jl_d1 hd rfl | omega) m2 (fun v2 h2 c2_0 y2 => sg_K1 ?_)
  refine st_as (fun H r => jk_unR hI.1 r) ?_
  have I2 := jk_IM hI y2
  refine sg_pop (pc := 2078) dL_law_2078 rfl ?_
  refine sg_goto (pc := 2079) (tgt := 2472) dL_law_2079 (by decide) ?_
  refine sg_lsub (lv' := [(0, _), (1, _), (2, _), (3, _), (4, _)]) ⟨rfl, rfl, rfl, rfl, rfl, trivial⟩ ?_
  exact K _ _ _ I2 (by omega) (by omega)

set_option maxRecDepth 100000 in
set_option maxHeartbeats 1000000 in
theorem lw_c47 {w : sg_W} {Q : sg_O → sg_H → Prop} {h : sg_H} (g : sg_G w) (nc : jk_C w) (hJ : jz w) {d mc ms : Nat} (hd : 30 ≤ d) {B M O S j k n : Nat} {xs : List Int} (hI : jk_I w B M O S xs h) (hj : 6 * j + 6 ≤ xs.length) (hl : xs.length ≤ 3072) (hk : k + 1030 ≤ mc) (hn : n + (48 + 2) ≤ ms) (K : ∀ (h' : sg_H) (k' n' : Nat), jk_I w B M O S xs h' → k' ≤ k + 1030 → n' ≤ n + (48 + 2) → sg_R w mi_L_law d mc ms Q 2472 [(0, sg_r S), (1, sg_r B), (2, sg_r M), (3, sg_r O), (4, sg_i (6 * (j : Int)))] [] h' k' n') : sg_R w mi_L_law d mc ms Q 2082 [(0, sg_r S), (1, sg_r B), (2, sg_r M), (3, sg_r O), (4, sg_i (6 * (j : Int)))] [] h k n := by
  refine sg_aload_n (pc := 2082) (j := 1) dL_law_2082 rfl rfl ?_
  refine sg_aload_n (pc := 2083) (j := 0) dL_law_2083 rfl rfl ?_
  refine sg_iload (pc := 2084) dL_law_2084 rfl ?_
  refine sg_iconst (pc := 2086) (z := 1) dL_law_2086 (by decide) ?_
  first | refine sg_iaddB (pc := 2087) dL_law_2087 (by omega) (by omega) ?_ | refine sg_iadd (pc := 2087) dL_law_2087 ?_
  refine sg_iald (pc := 2088) dL_law_2088 hI.2.2.2.2.2.2.2.2.2 rfl (by omega) (jk_x (by omega) (by omega)) ?_
  refine sg_aload_n (pc := 2089) (j := 0) dL_law_2089 rfl rfl ?_
  refine sg_iload (pc := 2090) dL_law_2090 rfl ?_
  refine sg_iconst (pc := 2092) (z := 2) dL_law_2092 (by decide) ?_
  first | refine sg_iaddB (pc := 2093) dL_law_2093 (by omega) (by omega) ?_ | refine sg_iadd (pc := 2093) dL_law_2093 ?_
  refine sg_iald (pc := 2094) dL_law_2094 hI.2.2.2.2.2.2.2.2.2 rfl (by omega) (jk_x (by omega) (by omega)) ?_
  refine sg_if_eq (pc := 2095) (tgt := 2102) dL_law_2095 (by decide) (fun c2095 => ?_) (fun c2095 => ?_)
  · refine sg_iconst (pc := 2102) (z := 0) dL_law_2102 (by decide) ?_
    refine sg_aload_n (pc := 2103) (j := 3) dL_law_2103 rfl rfl ?_
    refine st_cS4 (pc := 2104) (d' := d - 1) (mc' := 8) (ms' := 48) g dL_law_2104 cb_L_half cw_L_half ml_L_349 ms_L_half (Nat.le_of_ble_eq_true rfl) (by first | exact jl_d0 hd rfl | omega) (by first | exact Nat.le_of_ble_eq_true rfl | omega) (by first | exact Nat.le_of_ble_eq_true rfl | omega) ?_
    refine s_L_half g nc (by omega) hI (fun v1 h1 I1 X1 k1 o1 => sg_K1 ?_)
    refine sg_istore (pc := 2107) dL_law_2107 (by decide) ?_
    refine sg_aload_n (pc := 2109) (j := 2) dL_law_2109 rfl rfl ?_
    refine sg_aload_n (pc := 2110) (j := 0) dL_law_2110 rfl rfl ?_
    refine sg_iload (pc := 2111) dL_law_2111 rfl ?_
    refine sg_iconst (pc := 2113) (z := 1) dL_law_2113 (by decide) ?_
    first | refine sg_iaddB (pc := 2114) dL_law_2114 (by omega) (by omega) ?_ | refine sg_iadd (pc := 2114) dL_law_2114 ?_
    refine sg_iald (pc := 2115) dL_law_2115 I1.2.2.2.2.2.2.2.2.2 rfl (by omega) (jk_x (by omega) (by omega)) ?_
    refine sg_aload_n (pc := 2116) (j := 0) dL_law_2116 rfl rfl ?_
    refine sg_iload (pc := 2117) dL_law_2117 rfl ?_
    refine sg_iconst (pc := 2119) (z := 2) dL_law_2119 (by decide) ?_
    first | refine sg_iaddB (pc := 2120) dL_law_2120 (by omega) (by omega) ?_ | refine sg_iadd (pc := 2120) dL_law_2120 ?_
    refine sg_iald (pc := 2121) dL_law_2121 I1.2.2.2.2.2.2.2.2.2 rfl (by omega) (jk_x (by omega) (by omega)) ?_
    refine sg_if_eq (pc := 2122) (tgt := 2129) dL_law_2122 (by decide) (fun c2122 => ?_) (fun c2122 => ?_)
    · refine sg_iconst (pc := 2129) (z := 0) dL_law_2129 (by decide) ?_
      refine st_as (fun H r => jk_tgR (B := B) r) ?_
      have m2 := jk_Im I1
      refine sg_cE2 (pc := 2130) (d' := d - 1) (mc' := 1) (ms' := 2) 8 g dL_law_2130 cb_X7_half ml_L_351 mn_X7_half rfl mv_X7_half (Nat.le_of_ble_eq_true rfl) (md_oc m2) (Nat.le_of_ble_eq_true rfl) (by first | exact jl_d0 hd rfl | omega) (by first | exact Nat.le_of_ble_eq_true rfl | omega) (by first | exact Nat.le_of_ble_eq_true rfl | omega) ?_
      refine s_X7_half g (by first | exact jl_d1 hd rfl | omega) m2 (fun v2 h2 c2_0 c2_1 y2 => sg_K1 ?_)
      refine st_as (fun H r => jk_unR I1.1 r) ?_
      have I2 := jk_IM I1 y2
      have eo := jk_oM I1 y2
      refine sg_istore (pc := 2133) dL_law_2133 (by decide) ?_
      refine sg_goto (pc := 2135) (tgt := 2472) dL_law_2135 (by decide) ?_
      refine sg_lsub (lv' := [(0, _), (1, _), (2, _), (3, _), (4, _)]) ⟨rfl, rfl, rfl, rfl, rfl, trivial⟩ ?_
      exact K _ _ _ I2 (by omega) (by omega)
    · refine sg_iconst (pc := 2125) (z := 1) dL_law_2125 (by decide) ?_
      refine sg_goto (pc := 2126) (tgt := 2130) dL_law_2126 (by decide) ?_
      refine st_as (fun H r => jk_tgR (B := B) r) ?_
      have m3 := jk_Im I1
      refine sg_cE2 (pc := 2130) (d' := d - 1) (mc' := 1) (ms' := 2) 8 g dL_law_2130 cb_X7_half ml_L_351 mn_X7_half rfl mv_X7_half (Nat.le_of_ble_eq_true rfl) (md_oc m3) (Nat.le_of_ble_eq_true rfl) (by first | exact jl_d0 hd rfl | omega) (by first | exact Nat.le_of_ble_eq_true rfl | omega) (by first | exact Nat.le_of_ble_eq_true rfl | omega) ?_
      refine s_X7_half g (by first | exact jl_d1 hd rfl | omega) m3 (fun v3 h3 c3_0 c3_1 y3 => sg_K1 ?_)
      refine st_as (fun H r => jk_unR I1.1 r) ?_
      have I3 := jk_IM I1 y3
      have eo := jk_oM I1 y3
      refine sg_istore (pc := 2133) dL_law_2133 (by decide) ?_
      refine sg_goto (pc := 2135) (tgt := 2472) dL_law_2135 (by decide) ?_
      refine sg_lsub (lv' := [(0, _), (1, _), (2, _), (3, _), (4, _)]) ⟨rfl, rfl, rfl, rfl, rfl, trivial⟩ ?_
      exact K _ _ _ I3 (by omega) (by omega)
  · refine sg_iconst (pc := 2098) (z := 1) dL_law_2098 (by decide) ?_
    refine sg_goto (pc := 2099) (tgt := 2103) dL_law_2099 (by decide) ?_
    refine sg_aload_n (pc := 2103) (j := 3) dL_law_2103 rfl rfl ?_
    refine st_cS4 (pc := 2104) (d' := d - 1) (mc' := 8) (ms' := 48) g dL_law_2104 cb_L_half cw_L_half ml_L_349 ms_L_half (Nat.le_of_ble_eq_true rfl) (by first | exact jl_d0 hd rfl | omega) (by first | exact Nat.le_of_ble_eq_true rfl | omega) (by first | exact Nat.le_of_ble_eq_true rfl | omega) ?_
    refine s_L_half g nc (by omega) hI (fun v4 h4 I4 X4 k4 o4 => sg_K1 ?_)
    refine sg_istore (pc := 2107) dL_law_2107 (by decide) ?_
    refine sg_aload_n (pc := 2109) (j := 2) dL_law_2109 rfl rfl ?_
    refine sg_aload_n (pc := 2110) (j := 0) dL_law_2110 rfl rfl ?_
    refine sg_iload (pc := 2111) dL_law_2111 rfl ?_
    refine sg_iconst (pc := 2113) (z := 1) dL_law_2113 (by decide) ?_
    first | refine sg_iaddB (pc := 2114) dL_law_2114 (by omega) (by omega) ?_ | refine sg_iadd (pc := 2114) dL_law_2114 ?_
    refine sg_iald (pc := 2115) dL_law_2115 I4.2.2.2.2.2.2.2.2.2 rfl (by omega) (jk_x (by omega) (by omega)) ?_
    refine sg_aload_n (pc := 2116) (j := 0) dL_law_2116 rfl rfl ?_
    refine sg_iload (pc := 2117) dL_law_2117 rfl ?_
    refine sg_iconst (pc := 2119) (z := 2) dL_law_2119 (by decide) ?_
    first | refine sg_iaddB (pc := 2120) dL_law_2120 (by omega) (by omega) ?_ | refine sg_iadd (pc := 2120) dL_law_2120 ?_
    refine sg_iald (pc := 2121) dL_law_2121 I4.2.2.2.2.2.2.2.2.2 rfl (by omega) (jk_x (by omega) (by omega)) ?_
    refine sg_if_eq (pc := 2122) (tgt := 2129) dL_law_2122 (by decide) (fun c2122 => ?_) (fun c2122 => ?_)
    · refine sg_iconst (pc := 2129) (z := 0) dL_law_2129 (by decide) ?_
      refine st_as (fun H r => jk_tgR (B := B) r) ?_
      have m5 := jk_Im I4
      refine sg_cE2 (pc := 2130) (d' := d - 1) (mc' := 1) (ms' := 2) 8 g dL_law_2130 cb_X7_half ml_L_351 mn_X7_half rfl mv_X7_half (Nat.le_of_ble_eq_true rfl) (md_oc m5) (Nat.le_of_ble_eq_true rfl) (by first | exact jl_d0 hd rfl | omega) (by first | exact Nat.le_of_ble_eq_true rfl | omega) (by first | exact Nat.le_of_ble_eq_true rfl | omega) ?_
      refine s_X7_half g (by first | exact jl_d1 hd rfl | omega) m5 (fun v5 h5 c5_0 c5_1 y5 => sg_K1 ?_)
      refine st_as (fun H r => jk_unR I4.1 r) ?_
      have I5 := jk_IM I4 y5
      have eo := jk_oM I4 y5
      refine sg_istore (pc := 2133) dL_law_2133 (by decide) ?_
      refine sg_goto (pc := 2135) (tgt := 2472) dL_law_2135 (by decide) ?_
      refine sg_lsub (lv' := [(0, _), (1, _), (2, _), (3, _), (4, _)]) ⟨rfl, rfl, rfl, rfl, rfl, trivial⟩ ?_
      exact K _ _ _ I5 (by omega) (by omega)
    · refine sg_iconst (pc := 2125) (z := 1) dL_law_2125 (by decide) ?_
      refine sg_goto (pc := 2126) (tgt := 2130) dL_law_2126 (by decide) ?_
      refine st_as (fun H r => jk_tgR (B := B) r) ?_
      have m6 := jk_Im I4
      refine sg_cE2 (pc := 2130) (d' := d - 1) (mc' := 1) (ms' := 2) 8 g dL_law_2130 cb_X7_half ml_L_351 mn_X7_half rfl mv_X7_half (Nat.le_of_ble_eq_true rfl) (md_oc m6) (Nat.le_of_ble_eq_true rfl) (by first | exact jl_d0 hd rfl | omega) (by first | exact Nat.le_of_ble_eq_true rfl | omega) (by first | exact Nat.le_of_ble_eq_true rfl | omega) ?_
      refine s_X7_half g (by first | exact jl_d1 hd rfl | omega) m6 (fun v6 h6 c6_0 c6_1 y6 => sg_K1 ?_)
      refine st_as (fun H r => jk_unR I4.1 r) ?_
      have I6 := jk_IM I4 y6
      have eo := jk_oM I4 y6
      refine sg_istore (pc := 2133) dL_law_2133 (by decide) ?_
      refine sg_goto (pc := 2135) (tgt := 2472) dL_law_2135 (by decide) ?_
      refine sg_lsub (lv' := [(0, _), (1, _), (2, _), (3, _), (4, _)]) ⟨rfl, rfl, rfl, rfl, rfl, trivial⟩ ?_
      exact K _ _ _ I6 (by omega) (by omega)

set_option maxRecDepth 100000 in
set_option maxHeartbeats 1000000 in
theorem lw_c48 {w : sg_W} {Q : sg_O → sg_H → Prop} {h : sg_H} (g : sg_G w) (nc : jk_C w) (hJ : jz w) {d mc ms : Nat} (hd : 30 ≤ d) {B M O S j k n : Nat} {xs : List Int} (hI : jk_I w B M O S xs h) (hj : 6 * j + 6 ≤ xs.length) (hl : xs.length ≤ 3072) (hk : k + 1030 ≤ mc) (hn : n + (48 + 0) ≤ ms) (K : ∀ (h' : sg_H) (k' n' : Nat), jk_I w B M O S xs h' → k' ≤ k + 1030 → n' ≤ n + (48 + 0) → sg_R w mi_L_law d mc ms Q 2472 [(0, sg_r S), (1, sg_r B), (2, sg_r M), (3, sg_r O), (4, sg_i (6 * (j : Int)))] [] h' k' n') : sg_R w mi_L_law d mc ms Q 2138 [(0, sg_r S), (1, sg_r B), (2, sg_r M), (3, sg_r O), (4, sg_i (6 * (j : Int)))] [] h k n := by
  refine sg_aload_n (pc := 2138) (j := 1) dL_law_2138 rfl rfl ?_
  refine sg_aload_n (pc := 2139) (j := 0) dL_law_2139 rfl rfl ?_
  refine sg_iload (pc := 2140) dL_law_2140 rfl ?_
  refine sg_iconst (pc := 2142) (z := 1) dL_law_2142 (by decide) ?_
  first | refine sg_iaddB (pc := 2143) dL_law_2143 (by omega) (by omega) ?_ | refine sg_iadd (pc := 2143) dL_law_2143 ?_
  refine sg_iald (pc := 2144) dL_law_2144 hI.2.2.2.2.2.2.2.2.2 rfl (by omega) (jk_x (by omega) (by omega)) ?_
  refine sg_aload_n (pc := 2145) (j := 0) dL_law_2145 rfl rfl ?_
  refine sg_iload (pc := 2146) dL_law_2146 rfl ?_
  refine sg_iconst (pc := 2148) (z := 2) dL_law_2148 (by decide) ?_
  first | refine sg_iaddB (pc := 2149) dL_law_2149 (by omega) (by omega) ?_ | refine sg_iadd (pc := 2149) dL_law_2149 ?_
  refine sg_iald (pc := 2150) dL_law_2150 hI.2.2.2.2.2.2.2.2.2 rfl (by omega) (jk_x (by omega) (by omega)) ?_
  refine sg_aload_n (pc := 2151) (j := 3) dL_law_2151 rfl rfl ?_
  refine st_cS4 (pc := 2152) (d' := d - 1) (mc' := 8) (ms' := 48) g dL_law_2152 cb_L_code cw_L_code ml_L_352 ms_L_code (Nat.le_of_ble_eq_true rfl) (by first | exact jl_d0 hd rfl | omega) (by first | exact Nat.le_of_ble_eq_true rfl | omega) (by first | exact Nat.le_of_ble_eq_true rfl | omega) ?_
  refine s_L_code g nc (by omega) hI (fun v1 h1 I1 X1 k1 o1 => sg_K1 ?_)
  refine sg_istore (pc := 2155) dL_law_2155 (by decide) ?_
  refine sg_aload_n (pc := 2157) (j := 2) dL_law_2157 rfl rfl ?_
  refine sg_aload_n (pc := 2158) (j := 0) dL_law_2158 rfl rfl ?_
  refine sg_iload (pc := 2159) dL_law_2159 rfl ?_
  refine sg_iconst (pc := 2161) (z := 1) dL_law_2161 (by decide) ?_
  first | refine sg_iaddB (pc := 2162) dL_law_2162 (by omega) (by omega) ?_ | refine sg_iadd (pc := 2162) dL_law_2162 ?_
  refine sg_iald (pc := 2163) dL_law_2163 I1.2.2.2.2.2.2.2.2.2 rfl (by omega) (jk_x (by omega) (by omega)) ?_
  refine sg_aload_n (pc := 2164) (j := 0) dL_law_2164 rfl rfl ?_
  refine sg_iload (pc := 2165) dL_law_2165 rfl ?_
  refine sg_iconst (pc := 2167) (z := 2) dL_law_2167 (by decide) ?_
  first | refine sg_iaddB (pc := 2168) dL_law_2168 (by omega) (by omega) ?_ | refine sg_iadd (pc := 2168) dL_law_2168 ?_
  refine sg_iald (pc := 2169) dL_law_2169 I1.2.2.2.2.2.2.2.2.2 rfl (by omega) (jk_x (by omega) (by omega)) ?_
  refine st_as (fun H r => jk_tgR (B := B) r) ?_
  have m2 := jk_Im I1
  refine sg_cE2 (pc := 2170) (d' := d - 1) (mc' := 0) (ms' := 0) 8 g dL_law_2170 cb_X7_code ml_L_354 mn_X7_code rfl mv_X7_code (Nat.le_of_ble_eq_true rfl) (md_oc m2) (Nat.le_of_ble_eq_true rfl) (by first | exact jl_d0 hd rfl | omega) (by first | exact Nat.le_of_ble_eq_true rfl | omega) (by first | exact Nat.le_of_ble_eq_true rfl | omega) ?_
  refine s_X7_code g (by first | exact jl_d1 hd rfl | omega) m2 (fun v2 h2 c2_0 c2_1 y2 => sg_K1 ?_)
  refine st_as (fun H r => jk_unR I1.1 r) ?_
  have I2 := jk_IM I1 y2
  have eo := jk_oM I1 y2
  refine sg_istore (pc := 2173) dL_law_2173 (by decide) ?_
  refine sg_goto (pc := 2175) (tgt := 2472) dL_law_2175 (by decide) ?_
  refine sg_lsub (lv' := [(0, _), (1, _), (2, _), (3, _), (4, _)]) ⟨rfl, rfl, rfl, rfl, rfl, trivial⟩ ?_
  exact K _ _ _ I2 (by omega) (by omega)

set_option maxRecDepth 100000 in
set_option maxHeartbeats 1000000 in
theorem lw_c49 {w : sg_W} {Q : sg_O → sg_H → Prop} {h : sg_H} (g : sg_G w) (nc : jk_C w) (hJ : jz w) {d mc ms : Nat} (hd : 30 ≤ d) {B M O S j k n : Nat} {xs : List Int} (hI : jk_I w B M O S xs h) (hj : 6 * j + 6 ≤ xs.length) (hl : xs.length ≤ 3072) (hk : k + 1030 ≤ mc) (hn : n + (48 + 0) ≤ ms) (K : ∀ (h' : sg_H) (k' n' : Nat), jk_I w B M O S xs h' → k' ≤ k + 1030 → n' ≤ n + (48 + 0) → sg_R w mi_L_law d mc ms Q 2472 [(0, sg_r S), (1, sg_r B), (2, sg_r M), (3, sg_r O), (4, sg_i (6 * (j : Int)))] [] h' k' n') : sg_R w mi_L_law d mc ms Q 2178 [(0, sg_r S), (1, sg_r B), (2, sg_r M), (3, sg_r O), (4, sg_i (6 * (j : Int)))] [] h k n := by
  refine sg_aload_n (pc := 2178) (j := 1) dL_law_2178 rfl rfl ?_
  refine sg_aload_n (pc := 2179) (j := 0) dL_law_2179 rfl rfl ?_
  refine sg_iload (pc := 2180) dL_law_2180 rfl ?_
  refine sg_iconst (pc := 2182) (z := 1) dL_law_2182 (by decide) ?_
  first | refine sg_iaddB (pc := 2183) dL_law_2183 (by omega) (by omega) ?_ | refine sg_iadd (pc := 2183) dL_law_2183 ?_
  refine sg_iald (pc := 2184) dL_law_2184 hI.2.2.2.2.2.2.2.2.2 rfl (by omega) (jk_x (by omega) (by omega)) ?_
  refine sg_aload_n (pc := 2185) (j := 0) dL_law_2185 rfl rfl ?_
  refine sg_iload (pc := 2186) dL_law_2186 rfl ?_
  refine sg_iconst (pc := 2188) (z := 2) dL_law_2188 (by decide) ?_
  first | refine sg_iaddB (pc := 2189) dL_law_2189 (by omega) (by omega) ?_ | refine sg_iadd (pc := 2189) dL_law_2189 ?_
  refine sg_iald (pc := 2190) dL_law_2190 hI.2.2.2.2.2.2.2.2.2 rfl (by omega) (jk_x (by omega) (by omega)) ?_
  refine sg_aload_n (pc := 2191) (j := 3) dL_law_2191 rfl rfl ?_
  refine st_cS4 (pc := 2192) (d' := d - 1) (mc' := 8) (ms' := 48) g dL_law_2192 cb_L_ofUnit cw_L_ofUnit ml_L_355 ms_L_ofUnit (Nat.le_of_ble_eq_true rfl) (by first | exact jl_d0 hd rfl | omega) (by first | exact Nat.le_of_ble_eq_true rfl | omega) (by first | exact Nat.le_of_ble_eq_true rfl | omega) ?_
  refine s_L_ofUnit g nc (by omega) hI (fun v1 h1 I1 X1 k1 o1 => sg_K1 ?_)
  refine sg_istore (pc := 2195) dL_law_2195 (by decide) ?_
  refine sg_aload_n (pc := 2197) (j := 2) dL_law_2197 rfl rfl ?_
  refine sg_aload_n (pc := 2198) (j := 0) dL_law_2198 rfl rfl ?_
  refine sg_iload (pc := 2199) dL_law_2199 rfl ?_
  refine sg_iconst (pc := 2201) (z := 1) dL_law_2201 (by decide) ?_
  first | refine sg_iaddB (pc := 2202) dL_law_2202 (by omega) (by omega) ?_ | refine sg_iadd (pc := 2202) dL_law_2202 ?_
  refine sg_iald (pc := 2203) dL_law_2203 I1.2.2.2.2.2.2.2.2.2 rfl (by omega) (jk_x (by omega) (by omega)) ?_
  refine sg_aload_n (pc := 2204) (j := 0) dL_law_2204 rfl rfl ?_
  refine sg_iload (pc := 2205) dL_law_2205 rfl ?_
  refine sg_iconst (pc := 2207) (z := 2) dL_law_2207 (by decide) ?_
  first | refine sg_iaddB (pc := 2208) dL_law_2208 (by omega) (by omega) ?_ | refine sg_iadd (pc := 2208) dL_law_2208 ?_
  refine sg_iald (pc := 2209) dL_law_2209 I1.2.2.2.2.2.2.2.2.2 rfl (by omega) (jk_x (by omega) (by omega)) ?_
  refine st_as (fun H r => jk_tgR (B := B) r) ?_
  have m2 := jk_Im I1
  refine sg_cE2 (pc := 2210) (d' := d - 1) (mc' := 0) (ms' := 0) 8 g dL_law_2210 cb_X7_ofUnit ml_L_357 mn_X7_ofUnit rfl mv_X7_ofUnit (Nat.le_of_ble_eq_true rfl) (md_oc m2) (Nat.le_of_ble_eq_true rfl) (by first | exact jl_d0 hd rfl | omega) (by first | exact Nat.le_of_ble_eq_true rfl | omega) (by first | exact Nat.le_of_ble_eq_true rfl | omega) ?_
  refine s_X7_ofUnit g (by first | exact jl_d1 hd rfl | omega) m2 (fun v2 h2 c2_0 c2_1 y2 => sg_K1 ?_)
  refine st_as (fun H r => jk_unR I1.1 r) ?_
  have I2 := jk_IM I1 y2
  have eo := jk_oM I1 y2
  refine sg_istore (pc := 2213) dL_law_2213 (by decide) ?_
  refine sg_goto (pc := 2215) (tgt := 2472) dL_law_2215 (by decide) ?_
  refine sg_lsub (lv' := [(0, _), (1, _), (2, _), (3, _), (4, _)]) ⟨rfl, rfl, rfl, rfl, rfl, trivial⟩ ?_
  exact K _ _ _ I2 (by omega) (by omega)

set_option maxRecDepth 100000 in
set_option maxHeartbeats 1000000 in
theorem lw_c50 {w : sg_W} {Q : sg_O → sg_H → Prop} {h : sg_H} (g : sg_G w) (nc : jk_C w) (hJ : jz w) {d mc ms : Nat} (hd : 30 ≤ d) {B M O S j k n : Nat} {xs : List Int} (hI : jk_I w B M O S xs h) (hj : 6 * j + 6 ≤ xs.length) (hl : xs.length ≤ 3072) (hk : k + 1030 ≤ mc) (hn : n + (48 + 0) ≤ ms) (K : ∀ (h' : sg_H) (k' n' : Nat), jk_I w B M O S xs h' → k' ≤ k + 1030 → n' ≤ n + (48 + 0) → sg_R w mi_L_law d mc ms Q 2472 [(0, sg_r S), (1, sg_r B), (2, sg_r M), (3, sg_r O), (4, sg_i (6 * (j : Int)))] [] h' k' n') : sg_R w mi_L_law d mc ms Q 2218 [(0, sg_r S), (1, sg_r B), (2, sg_r M), (3, sg_r O), (4, sg_i (6 * (j : Int)))] [] h k n := by
  refine sg_aload_n (pc := 2218) (j := 1) dL_law_2218 rfl rfl ?_
  refine sg_aload_n (pc := 2219) (j := 0) dL_law_2219 rfl rfl ?_
  refine sg_iload (pc := 2220) dL_law_2220 rfl ?_
  refine sg_iconst (pc := 2222) (z := 1) dL_law_2222 (by decide) ?_
  first | refine sg_iaddB (pc := 2223) dL_law_2223 (by omega) (by omega) ?_ | refine sg_iadd (pc := 2223) dL_law_2223 ?_
  refine sg_iald (pc := 2224) dL_law_2224 hI.2.2.2.2.2.2.2.2.2 rfl (by omega) (jk_x (by omega) (by omega)) ?_
  refine sg_aload_n (pc := 2225) (j := 0) dL_law_2225 rfl rfl ?_
  refine sg_iload (pc := 2226) dL_law_2226 rfl ?_
  refine sg_iconst (pc := 2228) (z := 2) dL_law_2228 (by decide) ?_
  first | refine sg_iaddB (pc := 2229) dL_law_2229 (by omega) (by omega) ?_ | refine sg_iadd (pc := 2229) dL_law_2229 ?_
  refine sg_iald (pc := 2230) dL_law_2230 hI.2.2.2.2.2.2.2.2.2 rfl (by omega) (jk_x (by omega) (by omega)) ?_
  refine sg_aload_n (pc := 2231) (j := 3) dL_law_2231 rfl rfl ?_
  refine st_cS4 (pc := 2232) (d' := d - 1) (mc' := 8) (ms' := 48) g dL_law_2232 cb_L_compare cw_L_compare ml_L_358 ms_L_compare (Nat.le_of_ble_eq_true rfl) (by first | exact jl_d0 hd rfl | omega) (by first | exact Nat.le_of_ble_eq_true rfl | omega) (by first | exact Nat.le_of_ble_eq_true rfl | omega) ?_
  refine s_L_compare g nc (by omega) hI (fun v1 h1 I1 X1 k1 o1 => sg_K1 ?_)
  refine sg_istore (pc := 2235) dL_law_2235 (by decide) ?_
  refine sg_aload_n (pc := 2237) (j := 2) dL_law_2237 rfl rfl ?_
  refine sg_aload_n (pc := 2238) (j := 0) dL_law_2238 rfl rfl ?_
  refine sg_iload (pc := 2239) dL_law_2239 rfl ?_
  refine sg_iconst (pc := 2241) (z := 1) dL_law_2241 (by decide) ?_
  first | refine sg_iaddB (pc := 2242) dL_law_2242 (by omega) (by omega) ?_ | refine sg_iadd (pc := 2242) dL_law_2242 ?_
  refine sg_iald (pc := 2243) dL_law_2243 I1.2.2.2.2.2.2.2.2.2 rfl (by omega) (jk_x (by omega) (by omega)) ?_
  refine sg_aload_n (pc := 2244) (j := 0) dL_law_2244 rfl rfl ?_
  refine sg_iload (pc := 2245) dL_law_2245 rfl ?_
  refine sg_iconst (pc := 2247) (z := 2) dL_law_2247 (by decide) ?_
  first | refine sg_iaddB (pc := 2248) dL_law_2248 (by omega) (by omega) ?_ | refine sg_iadd (pc := 2248) dL_law_2248 ?_
  refine sg_iald (pc := 2249) dL_law_2249 I1.2.2.2.2.2.2.2.2.2 rfl (by omega) (jk_x (by omega) (by omega)) ?_
  refine st_as (fun H r => jk_tgR (B := B) r) ?_
  have m2 := jk_Im I1
  refine sg_cE2 (pc := 2250) (d' := d - 1) (mc' := 0) (ms' := 0) 8 g dL_law_2250 cb_X7_compare ml_L_360 mn_X7_compare rfl mv_X7_compare (Nat.le_of_ble_eq_true rfl) (md_oc m2) (Nat.le_of_ble_eq_true rfl) (by first | exact jl_d0 hd rfl | omega) (by first | exact Nat.le_of_ble_eq_true rfl | omega) (by first | exact Nat.le_of_ble_eq_true rfl | omega) ?_
  refine s_X7_compare g (by first | exact jl_d1 hd rfl | omega) m2 (fun v2 h2 c2_0 c2_1 y2 => sg_K1 ?_)
  refine st_as (fun H r => jk_unR I1.1 r) ?_
  have I2 := jk_IM I1 y2
  have eo := jk_oM I1 y2
  refine sg_istore (pc := 2253) dL_law_2253 (by decide) ?_
  refine sg_goto (pc := 2255) (tgt := 2472) dL_law_2255 (by decide) ?_
  refine sg_lsub (lv' := [(0, _), (1, _), (2, _), (3, _), (4, _)]) ⟨rfl, rfl, rfl, rfl, rfl, trivial⟩ ?_
  exact K _ _ _ I2 (by omega) (by omega)

set_option maxRecDepth 100000 in
set_option maxHeartbeats 1000000 in
theorem lw_c51 {w : sg_W} {Q : sg_O → sg_H → Prop} {h : sg_H} (g : sg_G w) (nc : jk_C w) (hJ : jz w) {d mc ms : Nat} (hd : 30 ≤ d) {B M O S j k n : Nat} {xs : List Int} (hI : jk_I w B M O S xs h) (hj : 6 * j + 6 ≤ xs.length) (hl : xs.length ≤ 3072) (hk : k + 1030 ≤ mc) (hn : n + (48 + 1350) ≤ ms) (K : ∀ (h' : sg_H) (k' n' : Nat), jk_I w B M O S xs h' → k' ≤ k + 1030 → n' ≤ n + (48 + 1350) → sg_R w mi_L_law d mc ms Q 2472 [(0, sg_r S), (1, sg_r B), (2, sg_r M), (3, sg_r O), (4, sg_i (6 * (j : Int)))] [] h' k' n') : sg_R w mi_L_law d mc ms Q 2258 [(0, sg_r S), (1, sg_r B), (2, sg_r M), (3, sg_r O), (4, sg_i (6 * (j : Int)))] [] h k n := by
  refine sg_aload_n (pc := 2258) (j := 1) dL_law_2258 rfl rfl ?_
  refine sg_aload_n (pc := 2259) (j := 0) dL_law_2259 rfl rfl ?_
  refine sg_iload (pc := 2260) dL_law_2260 rfl ?_
  refine sg_iconst (pc := 2262) (z := 1) dL_law_2262 (by decide) ?_
  first | refine sg_iaddB (pc := 2263) dL_law_2263 (by omega) (by omega) ?_ | refine sg_iadd (pc := 2263) dL_law_2263 ?_
  refine sg_iald (pc := 2264) dL_law_2264 hI.2.2.2.2.2.2.2.2.2 rfl (by omega) (jk_x (by omega) (by omega)) ?_
  refine sg_aload_n (pc := 2265) (j := 0) dL_law_2265 rfl rfl ?_
  refine sg_iload (pc := 2266) dL_law_2266 rfl ?_
  refine sg_iconst (pc := 2268) (z := 2) dL_law_2268 (by decide) ?_
  first | refine sg_iaddB (pc := 2269) dL_law_2269 (by omega) (by omega) ?_ | refine sg_iadd (pc := 2269) dL_law_2269 ?_
  refine sg_iald (pc := 2270) dL_law_2270 hI.2.2.2.2.2.2.2.2.2 rfl (by omega) (jk_x (by omega) (by omega)) ?_
  refine sg_aload_n (pc := 2271) (j := 3) dL_law_2271 rfl rfl ?_
  refine st_cS4 (pc := 2272) (d' := d - 1) (mc' := 8) (ms' := 48) g dL_law_2272 cb_L_ofTrack cw_L_ofTrack ml_L_361 ms_L_ofTrack (Nat.le_of_ble_eq_true rfl) (by first | exact jl_d0 hd rfl | omega) (by first | exact Nat.le_of_ble_eq_true rfl | omega) (by first | exact Nat.le_of_ble_eq_true rfl | omega) ?_
  refine s_L_ofTrack g nc (by omega) hI (fun v1 h1 I1 X1 => sg_K1 ?_)
  refine sg_istore (pc := 2275) dL_law_2275 (by decide) ?_
  refine sg_aload_n (pc := 2277) (j := 2) dL_law_2277 rfl rfl ?_
  refine sg_aload_n (pc := 2278) (j := 0) dL_law_2278 rfl rfl ?_
  refine sg_iload (pc := 2279) dL_law_2279 rfl ?_
  refine sg_iconst (pc := 2281) (z := 1) dL_law_2281 (by decide) ?_
  first | refine sg_iaddB (pc := 2282) dL_law_2282 (by omega) (by omega) ?_ | refine sg_iadd (pc := 2282) dL_law_2282 ?_
  refine sg_iald (pc := 2283) dL_law_2283 I1.2.2.2.2.2.2.2.2.2 rfl (by omega) (jk_x (by omega) (by omega)) ?_
  refine sg_aload_n (pc := 2284) (j := 0) dL_law_2284 rfl rfl ?_
  refine sg_iload (pc := 2285) dL_law_2285 rfl ?_
  refine sg_iconst (pc := 2287) (z := 2) dL_law_2287 (by decide) ?_
  first | refine sg_iaddB (pc := 2288) dL_law_2288 (by omega) (by omega) ?_ | refine sg_iadd (pc := 2288) dL_law_2288 ?_
  refine sg_iald (pc := 2289) dL_law_2289 I1.2.2.2.2.2.2.2.2.2 rfl (by omega) (jk_x (by omega) (by omega)) ?_
  refine st_as (fun H r => jk_tgR (B := B) r) ?_
  have m2 := jk_Im I1
  refine sg_cE2 (pc := 2290) (d' := d - 1) (mc' := 152) (ms' := 1350) 8 g dL_law_2290 cb_X7_ofTrack ml_L_363 mn_X7_ofTrack rfl mv_X7_ofTrack (Nat.le_of_ble_eq_true rfl) (md_oc m2) (Nat.le_of_ble_eq_true rfl) (by first | exact jl_d0 hd rfl | omega) (by first | exact Nat.le_of_ble_eq_true rfl | omega) (by first | exact Nat.le_of_ble_eq_true rfl | omega) ?_
  refine s_X7_ofTrack g (by first | exact jl_d1 hd rfl | omega) m2 (fun v2 h2  y2 => sg_K1 ?_)
  refine st_as (fun H r => jk_unR I1.1 r) ?_
  have I2 := jk_IM I1 y2
  refine sg_istore (pc := 2293) dL_law_2293 (by decide) ?_
  refine sg_goto (pc := 2295) (tgt := 2472) dL_law_2295 (by decide) ?_
  refine sg_lsub (lv' := [(0, _), (1, _), (2, _), (3, _), (4, _)]) ⟨rfl, rfl, rfl, rfl, rfl, trivial⟩ ?_
  exact K _ _ _ I2 (by omega) (by omega)

set_option maxRecDepth 100000 in
set_option maxHeartbeats 1000000 in
theorem lw_c52 {w : sg_W} {Q : sg_O → sg_H → Prop} {h : sg_H} (g : sg_G w) (nc : jk_C w) (hJ : jz w) {d mc ms : Nat} (hd : 30 ≤ d) {B M O S j k n : Nat} {xs : List Int} (hI : jk_I w B M O S xs h) (hj : 6 * j + 6 ≤ xs.length) (hl : xs.length ≤ 3072) (hk : k + 1030 ≤ mc) (hn : n + (48 + 0) ≤ ms) (K : ∀ (h' : sg_H) (k' n' : Nat), jk_I w B M O S xs h' → k' ≤ k + 1030 → n' ≤ n + (48 + 0) → sg_R w mi_L_law d mc ms Q 2472 [(0, sg_r S), (1, sg_r B), (2, sg_r M), (3, sg_r O), (4, sg_i (6 * (j : Int)))] [] h' k' n') : sg_R w mi_L_law d mc ms Q 2298 [(0, sg_r S), (1, sg_r B), (2, sg_r M), (3, sg_r O), (4, sg_i (6 * (j : Int)))] [] h k n := by
  refine sg_aload_n (pc := 2298) (j := 1) dL_law_2298 rfl rfl ?_
  refine sg_aload_n (pc := 2299) (j := 0) dL_law_2299 rfl rfl ?_
  refine sg_iload (pc := 2300) dL_law_2300 rfl ?_
  refine sg_iconst (pc := 2302) (z := 1) dL_law_2302 (by decide) ?_
  first | refine sg_iaddB (pc := 2303) dL_law_2303 (by omega) (by omega) ?_ | refine sg_iadd (pc := 2303) dL_law_2303 ?_
  refine sg_iald (pc := 2304) dL_law_2304 hI.2.2.2.2.2.2.2.2.2 rfl (by omega) (jk_x (by omega) (by omega)) ?_
  refine sg_aload_n (pc := 2305) (j := 0) dL_law_2305 rfl rfl ?_
  refine sg_iload (pc := 2306) dL_law_2306 rfl ?_
  refine sg_iconst (pc := 2308) (z := 2) dL_law_2308 (by decide) ?_
  first | refine sg_iaddB (pc := 2309) dL_law_2309 (by omega) (by omega) ?_ | refine sg_iadd (pc := 2309) dL_law_2309 ?_
  refine sg_iald (pc := 2310) dL_law_2310 hI.2.2.2.2.2.2.2.2.2 rfl (by omega) (jk_x (by omega) (by omega)) ?_
  refine sg_aload_n (pc := 2311) (j := 3) dL_law_2311 rfl rfl ?_
  refine st_cS4 (pc := 2312) (d' := d - 1) (mc' := 8) (ms' := 48) g dL_law_2312 cb_L_unit cw_L_unit ml_L_364 ms_L_unit (Nat.le_of_ble_eq_true rfl) (by first | exact jl_d0 hd rfl | omega) (by first | exact Nat.le_of_ble_eq_true rfl | omega) (by first | exact Nat.le_of_ble_eq_true rfl | omega) ?_
  refine s_L_unit g nc (by omega) hI (fun v1 h1 I1 X1 => sg_K1 ?_)
  refine sg_istore (pc := 2315) dL_law_2315 (by decide) ?_
  refine sg_aload_n (pc := 2317) (j := 2) dL_law_2317 rfl rfl ?_
  refine sg_aload_n (pc := 2318) (j := 0) dL_law_2318 rfl rfl ?_
  refine sg_iload (pc := 2319) dL_law_2319 rfl ?_
  refine sg_iconst (pc := 2321) (z := 1) dL_law_2321 (by decide) ?_
  first | refine sg_iaddB (pc := 2322) dL_law_2322 (by omega) (by omega) ?_ | refine sg_iadd (pc := 2322) dL_law_2322 ?_
  refine sg_iald (pc := 2323) dL_law_2323 I1.2.2.2.2.2.2.2.2.2 rfl (by omega) (jk_x (by omega) (by omega)) ?_
  refine sg_aload_n (pc := 2324) (j := 0) dL_law_2324 rfl rfl ?_
  refine sg_iload (pc := 2325) dL_law_2325 rfl ?_
  refine sg_iconst (pc := 2327) (z := 2) dL_law_2327 (by decide) ?_
  first | refine sg_iaddB (pc := 2328) dL_law_2328 (by omega) (by omega) ?_ | refine sg_iadd (pc := 2328) dL_law_2328 ?_
  refine sg_iald (pc := 2329) dL_law_2329 I1.2.2.2.2.2.2.2.2.2 rfl (by omega) (jk_x (by omega) (by omega)) ?_
  refine st_as (fun H r => jk_tgR (B := B) r) ?_
  have m2 := jk_Im I1
  refine sg_cE2 (pc := 2330) (d' := d - 1) (mc' := 0) (ms' := 0) 8 g dL_law_2330 cb_X7_unit ml_L_366 mn_X7_unit rfl mv_X7_unit (Nat.le_of_ble_eq_true rfl) (md_oc m2) (Nat.le_of_ble_eq_true rfl) (by first | exact jl_d0 hd rfl | omega) (by first | exact Nat.le_of_ble_eq_true rfl | omega) (by first | exact Nat.le_of_ble_eq_true rfl | omega) ?_
  refine s_X7_unit g (by first | exact jl_d1 hd rfl | omega) m2 (fun v2 h2  y2 => sg_K1 ?_)
  refine st_as (fun H r => jk_unR I1.1 r) ?_
  have I2 := jk_IM I1 y2
  refine sg_istore (pc := 2333) dL_law_2333 (by decide) ?_
  refine sg_goto (pc := 2335) (tgt := 2472) dL_law_2335 (by decide) ?_
  refine sg_lsub (lv' := [(0, _), (1, _), (2, _), (3, _), (4, _)]) ⟨rfl, rfl, rfl, rfl, rfl, trivial⟩ ?_
  exact K _ _ _ I2 (by omega) (by omega)

set_option maxRecDepth 100000 in
set_option maxHeartbeats 1000000 in
theorem lw_c53 {w : sg_W} {Q : sg_O → sg_H → Prop} {h : sg_H} (g : sg_G w) (nc : jk_C w) (hJ : jz w) {d mc ms : Nat} (hd : 30 ≤ d) {B M O S j k n : Nat} {xs : List Int} (hI : jk_I w B M O S xs h) (hj : 6 * j + 6 ≤ xs.length) (hl : xs.length ≤ 3072) (hk : k + 1030 ≤ mc) (hn : n + (48 + 0) ≤ ms) (K : ∀ (h' : sg_H) (k' n' : Nat), jk_I w B M O S xs h' → k' ≤ k + 1030 → n' ≤ n + (48 + 0) → sg_R w mi_L_law d mc ms Q 2472 [(0, sg_r S), (1, sg_r B), (2, sg_r M), (3, sg_r O), (4, sg_i (6 * (j : Int)))] [] h' k' n') : sg_R w mi_L_law d mc ms Q 2338 [(0, sg_r S), (1, sg_r B), (2, sg_r M), (3, sg_r O), (4, sg_i (6 * (j : Int)))] [] h k n := by
  refine sg_aload_n (pc := 2338) (j := 1) dL_law_2338 rfl rfl ?_
  refine sg_aload_n (pc := 2339) (j := 0) dL_law_2339 rfl rfl ?_
  refine sg_iload (pc := 2340) dL_law_2340 rfl ?_
  refine sg_iconst (pc := 2342) (z := 1) dL_law_2342 (by decide) ?_
  first | refine sg_iaddB (pc := 2343) dL_law_2343 (by omega) (by omega) ?_ | refine sg_iadd (pc := 2343) dL_law_2343 ?_
  refine sg_iald (pc := 2344) dL_law_2344 hI.2.2.2.2.2.2.2.2.2 rfl (by omega) (jk_x (by omega) (by omega)) ?_
  refine sg_aload_n (pc := 2345) (j := 0) dL_law_2345 rfl rfl ?_
  refine sg_iload (pc := 2346) dL_law_2346 rfl ?_
  refine sg_iconst (pc := 2348) (z := 2) dL_law_2348 (by decide) ?_
  first | refine sg_iaddB (pc := 2349) dL_law_2349 (by omega) (by omega) ?_ | refine sg_iadd (pc := 2349) dL_law_2349 ?_
  refine sg_iald (pc := 2350) dL_law_2350 hI.2.2.2.2.2.2.2.2.2 rfl (by omega) (jk_x (by omega) (by omega)) ?_
  refine sg_aload_n (pc := 2351) (j := 3) dL_law_2351 rfl rfl ?_
  refine st_cS4 (pc := 2352) (d' := d - 1) (mc' := 8) (ms' := 48) g dL_law_2352 cb_L_codeAt cw_L_codeAt ml_L_367 ms_L_codeAt (Nat.le_of_ble_eq_true rfl) (by first | exact jl_d0 hd rfl | omega) (by first | exact Nat.le_of_ble_eq_true rfl | omega) (by first | exact Nat.le_of_ble_eq_true rfl | omega) ?_
  refine s_L_codeAt g nc (by omega) hI (fun v1 h1 I1 X1 => sg_K1 ?_)
  refine sg_istore (pc := 2355) dL_law_2355 (by decide) ?_
  refine sg_aload_n (pc := 2357) (j := 2) dL_law_2357 rfl rfl ?_
  refine sg_aload_n (pc := 2358) (j := 0) dL_law_2358 rfl rfl ?_
  refine sg_iload (pc := 2359) dL_law_2359 rfl ?_
  refine sg_iconst (pc := 2361) (z := 1) dL_law_2361 (by decide) ?_
  first | refine sg_iaddB (pc := 2362) dL_law_2362 (by omega) (by omega) ?_ | refine sg_iadd (pc := 2362) dL_law_2362 ?_
  refine sg_iald (pc := 2363) dL_law_2363 I1.2.2.2.2.2.2.2.2.2 rfl (by omega) (jk_x (by omega) (by omega)) ?_
  refine sg_aload_n (pc := 2364) (j := 0) dL_law_2364 rfl rfl ?_
  refine sg_iload (pc := 2365) dL_law_2365 rfl ?_
  refine sg_iconst (pc := 2367) (z := 2) dL_law_2367 (by decide) ?_
  first | refine sg_iaddB (pc := 2368) dL_law_2368 (by omega) (by omega) ?_ | refine sg_iadd (pc := 2368) dL_law_2368 ?_
  refine sg_iald (pc := 2369) dL_law_2369 I1.2.2.2.2.2.2.2.2.2 rfl (by omega) (jk_x (by omega) (by omega)) ?_
  refine st_as (fun H r => jk_tgR (B := B) r) ?_
  have m2 := jk_Im I1
  refine sg_cE2 (pc := 2370) (d' := d - 1) (mc' := 0) (ms' := 0) 8 g dL_law_2370 cb_X7_codeAt ml_L_369 mn_X7_codeAt rfl mv_X7_codeAt (Nat.le_of_ble_eq_true rfl) (md_oc m2) (Nat.le_of_ble_eq_true rfl) (by first | exact jl_d0 hd rfl | omega) (by first | exact Nat.le_of_ble_eq_true rfl | omega) (by first | exact Nat.le_of_ble_eq_true rfl | omega) ?_
  refine s_X7_codeAt g (by first | exact jl_d1 hd rfl | omega) m2 (fun v2 h2  y2 => sg_K1 ?_)
  refine st_as (fun H r => jk_unR I1.1 r) ?_
  have I2 := jk_IM I1 y2
  refine sg_istore (pc := 2373) dL_law_2373 (by decide) ?_
  refine sg_goto (pc := 2375) (tgt := 2472) dL_law_2375 (by decide) ?_
  refine sg_lsub (lv' := [(0, _), (1, _), (2, _), (3, _), (4, _)]) ⟨rfl, rfl, rfl, rfl, rfl, trivial⟩ ?_
  exact K _ _ _ I2 (by omega) (by omega)

set_option maxRecDepth 100000 in
set_option maxHeartbeats 1000000 in
theorem lw_c54 {w : sg_W} {Q : sg_O → sg_H → Prop} {h : sg_H} (g : sg_G w) (nc : jk_C w) (hJ : jz w) {d mc ms : Nat} (hd : 30 ≤ d) {B M O S j k n : Nat} {xs : List Int} (hI : jk_I w B M O S xs h) (hj : 6 * j + 6 ≤ xs.length) (hl : xs.length ≤ 3072) (hk : k + 1030 ≤ mc) (hn : n + (48 + 1350) ≤ ms) (K : ∀ (h' : sg_H) (k' n' : Nat), jk_I w B M O S xs h' → k' ≤ k + 1030 → n' ≤ n + (48 + 1350) → sg_R w mi_L_law d mc ms Q 2472 [(0, sg_r S), (1, sg_r B), (2, sg_r M), (3, sg_r O), (4, sg_i (6 * (j : Int)))] [] h' k' n') : sg_R w mi_L_law d mc ms Q 2378 [(0, sg_r S), (1, sg_r B), (2, sg_r M), (3, sg_r O), (4, sg_i (6 * (j : Int)))] [] h k n := by
  refine sg_aload_n (pc := 2378) (j := 1) dL_law_2378 rfl rfl ?_
  refine sg_aload_n (pc := 2379) (j := 0) dL_law_2379 rfl rfl ?_
  refine sg_iload (pc := 2380) dL_law_2380 rfl ?_
  refine sg_iconst (pc := 2382) (z := 1) dL_law_2382 (by decide) ?_
  first | refine sg_iaddB (pc := 2383) dL_law_2383 (by omega) (by omega) ?_ | refine sg_iadd (pc := 2383) dL_law_2383 ?_
  refine sg_iald (pc := 2384) dL_law_2384 hI.2.2.2.2.2.2.2.2.2 rfl (by omega) (jk_x (by omega) (by omega)) ?_
  refine sg_aload_n (pc := 2385) (j := 0) dL_law_2385 rfl rfl ?_
  refine sg_iload (pc := 2386) dL_law_2386 rfl ?_
  refine sg_iconst (pc := 2388) (z := 2) dL_law_2388 (by decide) ?_
  first | refine sg_iaddB (pc := 2389) dL_law_2389 (by omega) (by omega) ?_ | refine sg_iadd (pc := 2389) dL_law_2389 ?_
  refine sg_iald (pc := 2390) dL_law_2390 hI.2.2.2.2.2.2.2.2.2 rfl (by omega) (jk_x (by omega) (by omega)) ?_
  refine sg_aload_n (pc := 2391) (j := 3) dL_law_2391 rfl rfl ?_
  refine st_cS4 (pc := 2392) (d' := d - 1) (mc' := 8) (ms' := 48) g dL_law_2392 cb_L_nth cw_L_nth ml_L_370 ms_L_nth (Nat.le_of_ble_eq_true rfl) (by first | exact jl_d0 hd rfl | omega) (by first | exact Nat.le_of_ble_eq_true rfl | omega) (by first | exact Nat.le_of_ble_eq_true rfl | omega) ?_
  refine s_L_nth g nc (by omega) hI (fun v1 h1 I1 X1 => sg_K1 ?_)
  refine sg_istore (pc := 2395) dL_law_2395 (by decide) ?_
  refine sg_aload_n (pc := 2397) (j := 2) dL_law_2397 rfl rfl ?_
  refine sg_aload_n (pc := 2398) (j := 0) dL_law_2398 rfl rfl ?_
  refine sg_iload (pc := 2399) dL_law_2399 rfl ?_
  refine sg_iconst (pc := 2401) (z := 1) dL_law_2401 (by decide) ?_
  first | refine sg_iaddB (pc := 2402) dL_law_2402 (by omega) (by omega) ?_ | refine sg_iadd (pc := 2402) dL_law_2402 ?_
  refine sg_iald (pc := 2403) dL_law_2403 I1.2.2.2.2.2.2.2.2.2 rfl (by omega) (jk_x (by omega) (by omega)) ?_
  refine sg_aload_n (pc := 2404) (j := 0) dL_law_2404 rfl rfl ?_
  refine sg_iload (pc := 2405) dL_law_2405 rfl ?_
  refine sg_iconst (pc := 2407) (z := 2) dL_law_2407 (by decide) ?_
  first | refine sg_iaddB (pc := 2408) dL_law_2408 (by omega) (by omega) ?_ | refine sg_iadd (pc := 2408) dL_law_2408 ?_
  refine sg_iald (pc := 2409) dL_law_2409 I1.2.2.2.2.2.2.2.2.2 rfl (by omega) (jk_x (by omega) (by omega)) ?_
  refine st_as (fun H r => jk_tgR (B := B) r) ?_
  have m2 := jk_Im I1
  refine sg_cE2 (pc := 2410) (d' := d - 1) (mc' := 152) (ms' := 1350) 8 g dL_law_2410 cb_X7_nth ml_L_372 mn_X7_nth rfl mv_X7_nth (Nat.le_of_ble_eq_true rfl) (md_oc m2) (Nat.le_of_ble_eq_true rfl) (by first | exact jl_d0 hd rfl | omega) (by first | exact Nat.le_of_ble_eq_true rfl | omega) (by first | exact Nat.le_of_ble_eq_true rfl | omega) ?_
  refine s_X7_nth g (by first | exact jl_d1 hd rfl | omega) m2 (fun v2 h2  y2 => sg_K1 ?_)
  refine st_as (fun H r => jk_unR I1.1 r) ?_
  have I2 := jk_IM I1 y2
  refine sg_istore (pc := 2413) dL_law_2413 (by decide) ?_
  refine sg_goto (pc := 2415) (tgt := 2472) dL_law_2415 (by decide) ?_
  refine sg_lsub (lv' := [(0, _), (1, _), (2, _), (3, _), (4, _)]) ⟨rfl, rfl, rfl, rfl, rfl, trivial⟩ ?_
  exact K _ _ _ I2 (by omega) (by omega)

set_option maxRecDepth 100000 in
set_option maxHeartbeats 1000000 in
theorem lw_c55 {w : sg_W} {Q : sg_O → sg_H → Prop} {h : sg_H} (g : sg_G w) (nc : jk_C w) (hJ : jz w) {d mc ms : Nat} (hd : 30 ≤ d) {B M O S j k n : Nat} {xs : List Int} (hI : jk_I w B M O S xs h) (hj : 6 * j + 6 ≤ xs.length) (hl : xs.length ≤ 3072) (hk : k + 1030 ≤ mc) (hn : n + (48 + 0) ≤ ms) (K : ∀ (h' : sg_H) (k' n' : Nat), jk_I w B M O S xs h' → k' ≤ k + 1030 → n' ≤ n + (48 + 0) → sg_R w mi_L_law d mc ms Q 2472 [(0, sg_r S), (1, sg_r B), (2, sg_r M), (3, sg_r O), (4, sg_i (6 * (j : Int)))] [] h' k' n') : sg_R w mi_L_law d mc ms Q 2418 [(0, sg_r S), (1, sg_r B), (2, sg_r M), (3, sg_r O), (4, sg_i (6 * (j : Int)))] [] h k n := by
  refine sg_aload_n (pc := 2418) (j := 1) dL_law_2418 rfl rfl ?_
  refine sg_aload_n (pc := 2419) (j := 0) dL_law_2419 rfl rfl ?_
  refine sg_iload (pc := 2420) dL_law_2420 rfl ?_
  refine sg_iconst (pc := 2422) (z := 1) dL_law_2422 (by decide) ?_
  first | refine sg_iaddB (pc := 2423) dL_law_2423 (by omega) (by omega) ?_ | refine sg_iadd (pc := 2423) dL_law_2423 ?_
  refine sg_iald (pc := 2424) dL_law_2424 hI.2.2.2.2.2.2.2.2.2 rfl (by omega) (jk_x (by omega) (by omega)) ?_
  refine sg_aload_n (pc := 2425) (j := 3) dL_law_2425 rfl rfl ?_
  refine st_cS3 (pc := 2426) (d' := d - 1) (mc' := 8) (ms' := 48) g dL_law_2426 cb_L_house cw_L_house ml_L_373 ms_L_house (Nat.le_of_ble_eq_true rfl) (by first | exact jl_d0 hd rfl | omega) (by first | exact Nat.le_of_ble_eq_true rfl | omega) (by first | exact Nat.le_of_ble_eq_true rfl | omega) ?_
  refine s_L_house g nc (by omega) hI (fun v1 h1 I1 X1 => sg_K1 ?_)
  refine sg_istore (pc := 2429) dL_law_2429 (by decide) ?_
  refine sg_aload_n (pc := 2431) (j := 2) dL_law_2431 rfl rfl ?_
  refine sg_aload_n (pc := 2432) (j := 0) dL_law_2432 rfl rfl ?_
  refine sg_iload (pc := 2433) dL_law_2433 rfl ?_
  refine sg_iconst (pc := 2435) (z := 1) dL_law_2435 (by decide) ?_
  first | refine sg_iaddB (pc := 2436) dL_law_2436 (by omega) (by omega) ?_ | refine sg_iadd (pc := 2436) dL_law_2436 ?_
  refine sg_iald (pc := 2437) dL_law_2437 I1.2.2.2.2.2.2.2.2.2 rfl (by omega) (jk_x (by omega) (by omega)) ?_
  refine st_as (fun H r => jk_tgR (B := B) r) ?_
  have m2 := jk_Im I1
  refine sg_cE1 (pc := 2438) (d' := d - 1) (mc' := 0) (ms' := 0) 8 g dL_law_2438 cb_X7_house ml_L_375 mn_X7_house rfl mv_X7_house (Nat.le_of_ble_eq_true rfl) (md_oc m2) (Nat.le_of_ble_eq_true rfl) (by first | exact jl_d0 hd rfl | omega) (by first | exact Nat.le_of_ble_eq_true rfl | omega) (by first | exact Nat.le_of_ble_eq_true rfl | omega) ?_
  refine s_X7_house g (by first | exact jl_d1 hd rfl | omega) m2 (fun v2 h2  y2 => sg_K1 ?_)
  refine st_as (fun H r => jk_unR I1.1 r) ?_
  have I2 := jk_IM I1 y2
  refine sg_istore (pc := 2441) dL_law_2441 (by decide) ?_
  refine sg_goto (pc := 2443) (tgt := 2472) dL_law_2443 (by decide) ?_
  refine sg_lsub (lv' := [(0, _), (1, _), (2, _), (3, _), (4, _)]) ⟨rfl, rfl, rfl, rfl, rfl, trivial⟩ ?_
  exact K _ _ _ I2 (by omega) (by omega)

set_option maxRecDepth 100000 in
set_option maxHeartbeats 1000000 in
theorem lw_c56 {w : sg_W} {Q : sg_O → sg_H → Prop} {h : sg_H} (g : sg_G w) (nc : jk_C w) (hJ : jz w) {d mc ms : Nat} (hd : 30 ≤ d) {B M O S j k n : Nat} {xs : List Int} (hI : jk_I w B M O S xs h) (hj : 6 * j + 6 ≤ xs.length) (hl : xs.length ≤ 3072) (hk : k + 1030 ≤ mc) (hn : n + (0 + 0) ≤ ms) (K : ∀ (h' : sg_H) (k' n' : Nat), jk_I w B M O S xs h' → k' ≤ k + 1030 → n' ≤ n + (0 + 0) → sg_R w mi_L_law d mc ms Q 2472 [(0, sg_r S), (1, sg_r B), (2, sg_r M), (3, sg_r O), (4, sg_i (6 * (j : Int)))] [] h' k' n') : sg_R w mi_L_law d mc ms Q 2446 [(0, sg_r S), (1, sg_r B), (2, sg_r M), (3, sg_r O), (4, sg_i (6 * (j : Int)))] [] h k n := by
  refine sg_aload_n (pc := 2446) (j := 1) dL_law_2446 rfl rfl ?_
  refine sg_cE0 (pc := 2447) (d' := d - 1) (mc' := 0) (ms' := 0) 6 g dL_law_2447 cb_X5_isSound ml_L_376 mn_X5_isSound rfl mv_X5_isSound (Nat.le_of_ble_eq_true rfl) (ck_oc hI.2.2.1) (Nat.le_of_ble_eq_true rfl) (by first | exact jl_d0 hd rfl | omega) (by first | exact Nat.le_of_ble_eq_true rfl | omega) (by first | exact Nat.le_of_ble_eq_true rfl | omega) ?_
  refine s_X5_isSound g (by first | exact jl_d1 hd rfl | omega) hI.2.2.1 (fun v1 c1 => sg_K1 ?_)
  refine sg_pop (pc := 2450) dL_law_2450 rfl ?_
  refine sg_aload_n (pc := 2451) (j := 2) dL_law_2451 rfl rfl ?_
  refine st_as (fun H r => jk_tgR (B := B) r) ?_
  have m2 := jk_Im hI
  refine sg_cE0 (pc := 2452) (d' := d - 1) (mc' := 0) (ms' := 0) 8 g dL_law_2452 cb_X7_isSound ml_L_380 mn_X7_isSound rfl mv_X7_isSound (Nat.le_of_ble_eq_true rfl) (md_oc m2) (Nat.le_of_ble_eq_true rfl) (by first | exact jl_d0 hd rfl | omega) (by first | exact Nat.le_of_ble_eq_true rfl | omega) (by first | exact Nat.le_of_ble_eq_true rfl | omega) ?_
  refine s_X7_isSound g (by first | exact jl_d1 hd rfl | omega) m2 (fun v2 h2 c2_0 y2 => sg_K1 ?_)
  refine st_as (fun H r => jk_unR hI.1 r) ?_
  have I2 := jk_IM hI y2
  refine sg_pop (pc := 2455) dL_law_2455 rfl ?_
  refine sg_goto (pc := 2456) (tgt := 2472) dL_law_2456 (by decide) ?_
  refine sg_lsub (lv' := [(0, _), (1, _), (2, _), (3, _), (4, _)]) ⟨rfl, rfl, rfl, rfl, rfl, trivial⟩ ?_
  exact K _ _ _ I2 (by omega) (by omega)

set_option maxRecDepth 100000 in
set_option maxHeartbeats 1000000 in
theorem lw_c57 {w : sg_W} {Q : sg_O → sg_H → Prop} {h : sg_H} (g : sg_G w) (nc : jk_C w) (hJ : jz w) {d mc ms : Nat} (hd : 30 ≤ d) {B M O S j k n : Nat} {xs : List Int} (hI : jk_I w B M O S xs h) (hj : 6 * j + 6 ≤ xs.length) (hl : xs.length ≤ 3072) (hk : k + 1030 ≤ mc) (hn : n + (0 + 8070) ≤ ms) (K : ∀ (h' : sg_H) (k' n' : Nat), jk_I w B M O S xs h' → k' ≤ k + 1030 → n' ≤ n + (0 + 8070) → sg_R w mi_L_law d mc ms Q 2472 [(0, sg_r S), (1, sg_r B), (2, sg_r M), (3, sg_r O), (4, sg_i (6 * (j : Int)))] [] h' k' n') : sg_R w mi_L_law d mc ms Q 2459 [(0, sg_r S), (1, sg_r B), (2, sg_r M), (3, sg_r O), (4, sg_i (6 * (j : Int)))] [] h k n := by
  refine sg_aload_n (pc := 2459) (j := 1) dL_law_2459 rfl rfl ?_
  refine sg_cE0 (pc := 2460) (d' := d - 1) (mc' := 0) (ms' := 0) 6 g dL_law_2460 cb_X5_digest ml_L_381 mn_X5_digest rfl mv_X5_digest (Nat.le_of_ble_eq_true rfl) (ck_oc hI.2.2.1) (Nat.le_of_ble_eq_true rfl) (by first | exact jl_d0 hd rfl | omega) (by first | exact Nat.le_of_ble_eq_true rfl | omega) (by first | exact Nat.le_of_ble_eq_true rfl | omega) ?_
  refine s_X5_digest g (by first | exact jl_d1 hd rfl | omega) hI.2.2.1 (fun v1 => sg_K1 ?_)
  refine sg_pop2 (pc := 2463) dL_law_2463 ?_
  refine sg_aload_n (pc := 2464) (j := 2) dL_law_2464 rfl rfl ?_
  refine st_as (fun H r => jk_tgR (B := B) r) ?_
  have m2 := jk_Im hI
  refine sg_cE0 (pc := 2465) (d' := d - 1) (mc' := 1016) (ms' := 8070) 8 g dL_law_2465 cb_X7_digest ml_L_385 mn_X7_digest rfl mv_X7_digest (Nat.le_of_ble_eq_true rfl) (md_oc m2) (Nat.le_of_ble_eq_true rfl) (by first | exact jl_d0 hd rfl | omega) (by first | exact Nat.le_of_ble_eq_true rfl | omega) (by first | exact Nat.le_of_ble_eq_true rfl | omega) ?_
  refine s_X7_digest g (by first | exact jl_d1 hd rfl | omega) m2 (fun v2 h2  y2 => sg_K1 ?_)
  refine st_as (fun H r => jk_unR hI.1 r) ?_
  have I2 := jk_IM hI y2
  refine sg_pop2 (pc := 2468) dL_law_2468 ?_
  refine sg_goto (pc := 2469) (tgt := 2472) dL_law_2469 (by decide) ?_
  refine sg_lsub (lv' := [(0, _), (1, _), (2, _), (3, _), (4, _)]) ⟨rfl, rfl, rfl, rfl, rfl, trivial⟩ ?_
  exact K _ _ _ I2 (by omega) (by omega)

