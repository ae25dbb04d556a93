def mi_L_law : sg_M := (x, cL_law, 7, some .boolean)
theorem jk_x {xs : List Int} {z : Int} (h0 : 0 ≤ z) (h1 : z < (xs.length : Int)) : (xs.map sg_i)[z.toNat]? = some (sg_i (xs.getD z.toNat 0)) := by
  have h2 : z.toNat < xs.length := by omega
  rw [List.getElem?_map, List.getElem?_eq_getElem h2, List.getD_eq_getElem?_getD, List.getElem?_eq_getElem h2]
  rfl
theorem jf80 : jf (2 * 40) = 13661 := by decide +kernel
theorem jf40 : jf 40 = 3061 := by decide +kernel

theorem st_cS2 {w : sg_W} {mi : sg_M} {hh : List (Nat × Nat × Nat × Nat)} {d mc ms : Nat} {Q : sg_O → sg_H → Prop} {pc : Nat} {lv : List (Nat × sg_V)} {st : List sg_V} {h : sg_H} {k n : Nat} {mi' : sg_M} {d' mc' ms' idx : Nat} {a0 a1 : sg_V} (g : sg_G w) (hd : decode mi.2.1 pc = .ok (.invokestatic idx, 3)) (hcw : sg_ok (.codeWith mi'.1 mi'.2.1 mi'.2.2.1 mi'.2.2.2 hh)) (hcl : sg_ok (.initialized mi'.1.cls) ∧ (mi'.1.cls ≠ "java/lang/invoke/MethodHandle" ∧ mi'.1.cls ≠ "java/lang/invoke/VarHandle") ∧ (parseMethodDescriptor mi'.1.desc).map (fun d => d.parameters.length) = some 2 ∧ mi'.2.2.1 ≤ 61) (hl : sg_ok (.methodLink mi.1.cls idx mi'.1)) (hsta : sg_ok (.static mi'.1)) (hr : sg_cs st ≤ 8) (hd' : d' + 1 ≤ d) (hk : k + mc' ≤ mc) (hn : n + ms' ≤ ms) (hm : sg_D w mi' hh d' mc' ms' [a0, a1] h (sg_K w mi d mc ms Q pc lv st (k + mc') (n + ms'))) : sg_R w mi d mc ms Q pc lv (a1 :: a0 :: st) h k n := st_callS (as := [a0, a1]) (rest := st) g hd hcw hcl hl hsta rfl rfl hr hd' hk hn hm
theorem st_cS3 {w : sg_W} {mi : sg_M} {hh : List (Nat × Nat × Nat × Nat)} {d mc ms : Nat} {Q : sg_O → sg_H → Prop} {pc : Nat} {lv : List (Nat × sg_V)} {st : List sg_V} {h : sg_H} {k n : Nat} {mi' : sg_M} {d' mc' ms' idx : Nat} {a0 a1 a2 : sg_V} (g : sg_G w) (hd : decode mi.2.1 pc = .ok (.invokestatic idx, 3)) (hcw : sg_ok (.codeWith mi'.1 mi'.2.1 mi'.2.2.1 mi'.2.2.2 hh)) (hcl : sg_ok (.initialized mi'.1.cls) ∧ (mi'.1.cls ≠ "java/lang/invoke/MethodHandle" ∧ mi'.1.cls ≠ "java/lang/invoke/VarHandle") ∧ (parseMethodDescriptor mi'.1.desc).map (fun d => d.parameters.length) = some 3 ∧ mi'.2.2.1 ≤ 61) (hl : sg_ok (.methodLink mi.1.cls idx mi'.1)) (hsta : sg_ok (.static mi'.1)) (hr : sg_cs st ≤ 8) (hd' : d' + 1 ≤ d) (hk : k + mc' ≤ mc) (hn : n + ms' ≤ ms) (hm : sg_D w mi' hh d' mc' ms' [a0, a1, a2] h (sg_K w mi d mc ms Q pc lv st (k + mc') (n + ms'))) : sg_R w mi d mc ms Q pc lv (a2 :: a1 :: a0 :: st) h k n := st_callS (as := [a0, a1, a2]) (rest := st) g hd hcw hcl hl hsta rfl rfl hr hd' hk hn hm
theorem st_cS4 {w : sg_W} {mi : sg_M} {hh : List (Nat × Nat × Nat × Nat)} {d mc ms : Nat} {Q : sg_O → sg_H → Prop} {pc : Nat} {lv : List (Nat × sg_V)} {st : List sg_V} {h : sg_H} {k n : Nat} {mi' : sg_M} {d' mc' ms' idx : Nat} {a0 a1 a2 a3 : sg_V} (g : sg_G w) (hd : decode mi.2.1 pc = .ok (.invokestatic idx, 3)) (hcw : sg_ok (.codeWith mi'.1 mi'.2.1 mi'.2.2.1 mi'.2.2.2 hh)) (hcl : sg_ok (.initialized mi'.1.cls) ∧ (mi'.1.cls ≠ "java/lang/invoke/MethodHandle" ∧ mi'.1.cls ≠ "java/lang/invoke/VarHandle") ∧ (parseMethodDescriptor mi'.1.desc).map (fun d => d.parameters.length) = some 4 ∧ mi'.2.2.1 ≤ 61) (hl : sg_ok (.methodLink mi.1.cls idx mi'.1)) (hsta : sg_ok (.static mi'.1)) (hr : sg_cs st ≤ 8) (hd' : d' + 1 ≤ d) (hk : k + mc' ≤ mc) (hn : n + ms' ≤ ms) (hm : sg_D w mi' hh d' mc' ms' [a0, a1, a2, a3] h (sg_K w mi d mc ms Q pc lv st (k + mc') (n + ms'))) : sg_R w mi d mc ms Q pc lv (a3 :: a2 :: a1 :: a0 :: st) h k n := st_callS (as := [a0, a1, a2, a3]) (rest := st) g hd hcw hcl hl hsta rfl rfl hr hd' hk hn hm
theorem st_cS5 {w : sg_W} {mi : sg_M} {hh : List (Nat × Nat × Nat × Nat)} {d mc ms : Nat} {Q : sg_O → sg_H → Prop} {pc : Nat} {lv : List (Nat × sg_V)} {st : List sg_V} {h : sg_H} {k n : Nat} {mi' : sg_M} {d' mc' ms' idx : Nat} {a0 a1 a2 a3 a4 : sg_V} (g : sg_G w) (hd : decode mi.2.1 pc = .ok (.invokestatic idx, 3)) (hcw : sg_ok (.codeWith mi'.1 mi'.2.1 mi'.2.2.1 mi'.2.2.2 hh)) (hcl : sg_ok (.initialized mi'.1.cls) ∧ (mi'.1.cls ≠ "java/lang/invoke/MethodHandle" ∧ mi'.1.cls ≠ "java/lang/invoke/VarHandle") ∧ (parseMethodDescriptor mi'.1.desc).map (fun d => d.parameters.length) = some 5 ∧ mi'.2.2.1 ≤ 61) (hl : sg_ok (.methodLink mi.1.cls idx mi'.1)) (hsta : sg_ok (.static mi'.1)) (hr : sg_cs st ≤ 8) (hd' : d' + 1 ≤ d) (hk : k + mc' ≤ mc) (hn : n + ms' ≤ ms) (hm : sg_D w mi' hh d' mc' ms' [a0, a1, a2, a3, a4] h (sg_K w mi d mc ms Q pc lv st (k + mc') (n + ms'))) : sg_R w mi d mc ms Q pc lv (a4 :: a3 :: a2 :: a1 :: a0 :: st) h k n := st_callS (as := [a0, a1, a2, a3, a4]) (rest := st) g hd hcw hcl hl hsta rfl rfl hr hd' hk hn hm
theorem st_cS7 {w : sg_W} {mi : sg_M} {hh : List (Nat × Nat × Nat × Nat)} {d mc ms : Nat} {Q : sg_O → sg_H → Prop} {pc : Nat} {lv : List (Nat × sg_V)} {st : List sg_V} {h : sg_H} {k n : Nat} {mi' : sg_M} {d' mc' ms' idx : Nat} {a0 a1 a2 a3 a4 a5 a6 : sg_V} (g : sg_G w) (hd : decode mi.2.1 pc = .ok (.invokestatic idx, 3)) (hcw : sg_ok (.codeWith mi'.1 mi'.2.1 mi'.2.2.1 mi'.2.2.2 hh)) (hcl : sg_ok (.initialized mi'.1.cls) ∧ (mi'.1.cls ≠ "java/lang/invoke/MethodHandle" ∧ mi'.1.cls ≠ "java/lang/invoke/VarHandle") ∧ (parseMethodDescriptor mi'.1.desc).map (fun d => d.parameters.length) = some 7 ∧ mi'.2.2.1 ≤ 61) (hl : sg_ok (.methodLink mi.1.cls idx mi'.1)) (hsta : sg_ok (.static mi'.1)) (hr : sg_cs st ≤ 8) (hd' : d' + 1 ≤ d) (hk : k + mc' ≤ mc) (hn : n + ms' ≤ ms) (hm : sg_D w mi' hh d' mc' ms' [a0, a1, a2, a3, a4, a5, a6] h (sg_K w mi d mc ms Q pc lv st (k + mc') (n + ms'))) : sg_R w mi d mc ms Q pc lv (a6 :: a5 :: a4 :: a3 :: a2 :: a1 :: a0 :: st) h k n := st_callS (as := [a0, a1, a2, a3, a4, a5, a6]) (rest := st) g hd hcw hcl hl hsta rfl rfl hr hd' hk hn hm
theorem cw_L_lay : sg_ok (.initialized mi_L_lay.1.cls) ∧ (mi_L_lay.1.cls ≠ "java/lang/invoke/MethodHandle" ∧ mi_L_lay.1.cls ≠ "java/lang/invoke/VarHandle") ∧ (parseMethodDescriptor mi_L_lay.1.desc).map (fun d => d.parameters.length) = some 7 ∧ mi_L_lay.2.2.1 ≤ 61 := ⟨sg_okt 0 (by decide +kernel), ⟨by decide +kernel, by decide +kernel⟩, by decide +kernel, by decide +kernel⟩
theorem cw_L_drop : sg_ok (.initialized mi_L_drop.1.cls) ∧ (mi_L_drop.1.cls ≠ "java/lang/invoke/MethodHandle" ∧ mi_L_drop.1.cls ≠ "java/lang/invoke/VarHandle") ∧ (parseMethodDescriptor mi_L_drop.1.desc).map (fun d => d.parameters.length) = some 4 ∧ mi_L_drop.2.2.1 ≤ 61 := ⟨sg_okt 0 (by decide +kernel), ⟨by decide +kernel, by decide +kernel⟩, by decide +kernel, by decide +kernel⟩
theorem cw_L_copy : sg_ok (.initialized mi_L_copy.1.cls) ∧ (mi_L_copy.1.cls ≠ "java/lang/invoke/MethodHandle" ∧ mi_L_copy.1.cls ≠ "java/lang/invoke/VarHandle") ∧ (parseMethodDescriptor mi_L_copy.1.desc).map (fun d => d.parameters.length) = some 4 ∧ mi_L_copy.2.2.1 ≤ 61 := ⟨sg_okt 0 (by decide +kernel), ⟨by decide +kernel, by decide +kernel⟩, by decide +kernel, by decide +kernel⟩
theorem cw_L_raise : sg_ok (.initialized mi_L_raise.1.cls) ∧ (mi_L_raise.1.cls ≠ "java/lang/invoke/MethodHandle" ∧ mi_L_raise.1.cls ≠ "java/lang/invoke/VarHandle") ∧ (parseMethodDescriptor mi_L_raise.1.desc).map (fun d => d.parameters.length) = some 3 ∧ mi_L_raise.2.2.1 ≤ 61 := ⟨sg_okt 0 (by decide +kernel), ⟨by decide +kernel, by decide +kernel⟩, by decide +kernel, by decide +kernel⟩
theorem cw_L_sink : sg_ok (.initialized mi_L_sink.1.cls) ∧ (mi_L_sink.1.cls ≠ "java/lang/invoke/MethodHandle" ∧ mi_L_sink.1.cls ≠ "java/lang/invoke/VarHandle") ∧ (parseMethodDescriptor mi_L_sink.1.desc).map (fun d => d.parameters.length) = some 3 ∧ mi_L_sink.2.2.1 ≤ 61 := ⟨sg_okt 0 (by decide +kernel), ⟨by decide +kernel, by decide +kernel⟩, by decide +kernel, by decide +kernel⟩
theorem cw_L_sieve : sg_ok (.initialized mi_L_sieve.1.cls) ∧ (mi_L_sieve.1.cls ≠ "java/lang/invoke/MethodHandle" ∧ mi_L_sieve.1.cls ≠ "java/lang/invoke/VarHandle") ∧ (parseMethodDescriptor mi_L_sieve.1.desc).map (fun d => d.parameters.length) = some 5 ∧ mi_L_sieve.2.2.1 ≤ 61 := ⟨sg_okt 0 (by decide +kernel), ⟨by decide +kernel, by decide +kernel⟩, by decide +kernel, by decide +kernel⟩
theorem cw_L_strip : sg_ok (.initialized mi_L_strip.1.cls) ∧ (mi_L_strip.1.cls ≠ "java/lang/invoke/MethodHandle" ∧ mi_L_strip.1.cls ≠ "java/lang/invoke/VarHandle") ∧ (parseMethodDescriptor mi_L_strip.1.desc).map (fun d => d.parameters.length) = some 3 ∧ mi_L_strip.2.2.1 ≤ 61 := ⟨sg_okt 0 (by decide +kernel), ⟨by decide +kernel, by decide +kernel⟩, by decide +kernel, by decide +kernel⟩
theorem cw_L_turn : sg_ok (.initialized mi_L_turn.1.cls) ∧ (mi_L_turn.1.cls ≠ "java/lang/invoke/MethodHandle" ∧ mi_L_turn.1.cls ≠ "java/lang/invoke/VarHandle") ∧ (parseMethodDescriptor mi_L_turn.1.desc).map (fun d => d.parameters.length) = some 3 ∧ mi_L_turn.2.2.1 ≤ 61 := ⟨sg_okt 0 (by decide +kernel), ⟨by decide +kernel, by decide +kernel⟩, by decide +kernel, by decide +kernel⟩
theorem cw_L_write : sg_ok (.initialized mi_L_write.1.cls) ∧ (mi_L_write.1.cls ≠ "java/lang/invoke/MethodHandle" ∧ mi_L_write.1.cls ≠ "java/lang/invoke/VarHandle") ∧ (parseMethodDescriptor mi_L_write.1.desc).map (fun d => d.parameters.length) = some 5 ∧ mi_L_write.2.2.1 ≤ 61 := ⟨sg_okt 0 (by decide +kernel), ⟨by decide +kernel, by decide +kernel⟩, by decide +kernel, by decide +kernel⟩
theorem cw_L_spell : sg_ok (.initialized mi_L_spell.1.cls) ∧ (mi_L_spell.1.cls ≠ "java/lang/invoke/MethodHandle" ∧ mi_L_spell.1.cls ≠ "java/lang/invoke/VarHandle") ∧ (parseMethodDescriptor mi_L_spell.1.desc).map (fun d => d.parameters.length) = some 4 ∧ mi_L_spell.2.2.1 ≤ 61 := ⟨sg_okt 0 (by decide +kernel), ⟨by decide +kernel, by decide +kernel⟩, by decide +kernel, by decide +kernel⟩
theorem cw_L_read : sg_ok (.initialized mi_L_read.1.cls) ∧ (mi_L_read.1.cls ≠ "java/lang/invoke/MethodHandle" ∧ mi_L_read.1.cls ≠ "java/lang/invoke/VarHandle") ∧ (parseMethodDescriptor mi_L_read.1.desc).map (fun d => d.parameters.length) = some 4 ∧ mi_L_read.2.2.1 ≤ 61 := ⟨sg_okt 0 (by decide +kernel), ⟨by decide +kernel, by decide +kernel⟩, by decide +kernel, by decide +kernel⟩
theorem cw_L_send : sg_ok (.initialized mi_L_send.1.cls) ∧ (mi_L_send.1.cls ≠ "java/lang/invoke/MethodHandle" ∧ mi_L_send.1.cls ≠ "java/lang/invoke/VarHandle") ∧ (parseMethodDescriptor mi_L_send.1.desc).map (fun d => d.parameters.length) = some 4 ∧ mi_L_send.2.2.1 ≤ 61 := ⟨sg_okt 0 (by decide +kernel), ⟨by decide +kernel, by decide +kernel⟩, by decide +kernel, by decide +kernel⟩
theorem cw_L_put : sg_ok (.initialized mi_L_put.1.cls) ∧ (mi_L_put.1.cls ≠ "java/lang/invoke/MethodHandle" ∧ mi_L_put.1.cls ≠ "java/lang/invoke/VarHandle") ∧ (parseMethodDescriptor mi_L_put.1.desc).map (fun d => d.parameters.length) = some 4 ∧ mi_L_put.2.2.1 ≤ 61 := ⟨sg_okt 0 (by decide +kernel), ⟨by decide +kernel, by decide +kernel⟩, by decide +kernel, by decide +kernel⟩
theorem cw_L_cut : sg_ok (.initialized mi_L_cut.1.cls) ∧ (mi_L_cut.1.cls ≠ "java/lang/invoke/MethodHandle" ∧ mi_L_cut.1.cls ≠ "java/lang/invoke/VarHandle") ∧ (parseMethodDescriptor mi_L_cut.1.desc).map (fun d => d.parameters.length) = some 4 ∧ mi_L_cut.2.2.1 ≤ 61 := ⟨sg_okt 0 (by decide +kernel), ⟨by decide +kernel, by decide +kernel⟩, by decide +kernel, by decide +kernel⟩
theorem cw_L_flip : sg_ok (.initialized mi_L_flip.1.cls) ∧ (mi_L_flip.1.cls ≠ "java/lang/invoke/MethodHandle" ∧ mi_L_flip.1.cls ≠ "java/lang/invoke/VarHandle") ∧ (parseMethodDescriptor mi_L_flip.1.desc).map (fun d => d.parameters.length) = some 3 ∧ mi_L_flip.2.2.1 ≤ 61 := ⟨sg_okt 0 (by decide +kernel), ⟨by decide +kernel, by decide +kernel⟩, by decide +kernel, by decide +kernel⟩
theorem cw_L_reverse : sg_ok (.initialized mi_L_reverse.1.cls) ∧ (mi_L_reverse.1.cls ≠ "java/lang/invoke/MethodHandle" ∧ mi_L_reverse.1.cls ≠ "java/lang/invoke/VarHandle") ∧ (parseMethodDescriptor mi_L_reverse.1.desc).map (fun d => d.parameters.length) = some 3 ∧ mi_L_reverse.2.2.1 ≤ 61 := ⟨sg_okt 0 (by decide +kernel), ⟨by decide +kernel, by decide +kernel⟩, by decide +kernel, by decide +kernel⟩
theorem cw_L_undo : sg_ok (.initialized mi_L_undo.1.cls) ∧ (mi_L_undo.1.cls ≠ "java/lang/invoke/MethodHandle" ∧ mi_L_undo.1.cls ≠ "java/lang/invoke/VarHandle") ∧ (parseMethodDescriptor mi_L_undo.1.desc).map (fun d => d.parameters.length) = some 2 ∧ mi_L_undo.2.2.1 ≤ 61 := ⟨sg_okt 0 (by decide +kernel), ⟨by decide +kernel, by decide +kernel⟩, by decide +kernel, by decide +kernel⟩
theorem cw_L_isDigit : sg_ok (.initialized mi_L_isDigit.1.cls) ∧ (mi_L_isDigit.1.cls ≠ "java/lang/invoke/MethodHandle" ∧ mi_L_isDigit.1.cls ≠ "java/lang/invoke/VarHandle") ∧ (parseMethodDescriptor mi_L_isDigit.1.desc).map (fun d => d.parameters.length) = some 3 ∧ mi_L_isDigit.2.2.1 ≤ 61 := ⟨sg_okt 0 (by decide +kernel), ⟨by decide +kernel, by decide +kernel⟩, by decide +kernel, by decide +kernel⟩
theorem cw_L_isLetter : sg_ok (.initialized mi_L_isLetter.1.cls) ∧ (mi_L_isLetter.1.cls ≠ "java/lang/invoke/MethodHandle" ∧ mi_L_isLetter.1.cls ≠ "java/lang/invoke/VarHandle") ∧ (parseMethodDescriptor mi_L_isLetter.1.desc).map (fun d => d.parameters.length) = some 3 ∧ mi_L_isLetter.2.2.1 ≤ 61 := ⟨sg_okt 0 (by decide +kernel), ⟨by decide +kernel, by decide +kernel⟩, by decide +kernel, by decide +kernel⟩
theorem cw_L_isLetterOrDigit : sg_ok (.initialized mi_L_isLetterOrDigit.1.cls) ∧ (mi_L_isLetterOrDigit.1.cls ≠ "java/lang/invoke/MethodHandle" ∧ mi_L_isLetterOrDigit.1.cls ≠ "java/lang/invoke/VarHandle") ∧ (parseMethodDescriptor mi_L_isLetterOrDigit.1.desc).map (fun d => d.parameters.length) = some 3 ∧ mi_L_isLetterOrDigit.2.2.1 ≤ 61 := ⟨sg_okt 0 (by decide +kernel), ⟨by decide +kernel, by decide +kernel⟩, by decide +kernel, by decide +kernel⟩
theorem cw_L_isWhite : sg_ok (.initialized mi_L_isWhite.1.cls) ∧ (mi_L_isWhite.1.cls ≠ "java/lang/invoke/MethodHandle" ∧ mi_L_isWhite.1.cls ≠ "java/lang/invoke/VarHandle") ∧ (parseMethodDescriptor mi_L_isWhite.1.desc).map (fun d => d.parameters.length) = some 3 ∧ mi_L_isWhite.2.2.1 ≤ 61 := ⟨sg_okt 0 (by decide +kernel), ⟨by decide +kernel, by decide +kernel⟩, by decide +kernel, by decide +kernel⟩
theorem cw_L_isGreat : sg_ok (.initialized mi_L_isGreat.1.cls) ∧ (mi_L_isGreat.1.cls ≠ "java/lang/invoke/MethodHandle" ∧ mi_L_isGreat.1.cls ≠ "java/lang/invoke/VarHandle") ∧ (parseMethodDescriptor mi_L_isGreat.1.desc).map (fun d => d.parameters.length) = some 3 ∧ mi_L_isGreat.2.2.1 ≤ 61 := ⟨sg_okt 0 (by decide +kernel), ⟨by decide +kernel, by decide +kernel⟩, by decide +kernel, by decide +kernel⟩
theorem cw_L_kinds : sg_ok (.initialized mi_L_kinds.1.cls) ∧ (mi_L_kinds.1.cls ≠ "java/lang/invoke/MethodHandle" ∧ mi_L_kinds.1.cls ≠ "java/lang/invoke/VarHandle") ∧ (parseMethodDescriptor mi_L_kinds.1.desc).map (fun d => d.parameters.length) = some 3 ∧ mi_L_kinds.2.2.1 ≤ 61 := ⟨sg_okt 0 (by decide +kernel), ⟨by decide +kernel, by decide +kernel⟩, by decide +kernel, by decide +kernel⟩
theorem cw_L_upper : sg_ok (.initialized mi_L_upper.1.cls) ∧ (mi_L_upper.1.cls ≠ "java/lang/invoke/MethodHandle" ∧ mi_L_upper.1.cls ≠ "java/lang/invoke/VarHandle") ∧ (parseMethodDescriptor mi_L_upper.1.desc).map (fun d => d.parameters.length) = some 4 ∧ mi_L_upper.2.2.1 ≤ 61 := ⟨sg_okt 0 (by decide +kernel), ⟨by decide +kernel, by decide +kernel⟩, by decide +kernel, by decide +kernel⟩
theorem cw_L_lower : sg_ok (.initialized mi_L_lower.1.cls) ∧ (mi_L_lower.1.cls ≠ "java/lang/invoke/MethodHandle" ∧ mi_L_lower.1.cls ≠ "java/lang/invoke/VarHandle") ∧ (parseMethodDescriptor mi_L_lower.1.desc).map (fun d => d.parameters.length) = some 4 ∧ mi_L_lower.2.2.1 ≤ 61 := ⟨sg_okt 0 (by decide +kernel), ⟨by decide +kernel, by decide +kernel⟩, by decide +kernel, by decide +kernel⟩
theorem cw_L_value : sg_ok (.initialized mi_L_value.1.cls) ∧ (mi_L_value.1.cls ≠ "java/lang/invoke/MethodHandle" ∧ mi_L_value.1.cls ≠ "java/lang/invoke/VarHandle") ∧ (parseMethodDescriptor mi_L_value.1.desc).map (fun d => d.parameters.length) = some 4 ∧ mi_L_value.2.2.1 ≤ 61 := ⟨sg_okt 0 (by decide +kernel), ⟨by decide +kernel, by decide +kernel⟩, by decide +kernel, by decide +kernel⟩
theorem cw_L_number : sg_ok (.initialized mi_L_number.1.cls) ∧ (mi_L_number.1.cls ≠ "java/lang/invoke/MethodHandle" ∧ mi_L_number.1.cls ≠ "java/lang/invoke/VarHandle") ∧ (parseMethodDescriptor mi_L_number.1.desc).map (fun d => d.parameters.length) = some 5 ∧ mi_L_number.2.2.1 ≤ 61 := ⟨sg_okt 0 (by decide +kernel), ⟨by decide +kernel, by decide +kernel⟩, by decide +kernel, by decide +kernel⟩
theorem cw_L_length : sg_ok (.initialized mi_L_length.1.cls) ∧ (mi_L_length.1.cls ≠ "java/lang/invoke/MethodHandle" ∧ mi_L_length.1.cls ≠ "java/lang/invoke/VarHandle") ∧ (parseMethodDescriptor mi_L_length.1.desc).map (fun d => d.parameters.length) = some 3 ∧ mi_L_length.2.2.1 ≤ 61 := ⟨sg_okt 0 (by decide +kernel), ⟨by decide +kernel, by decide +kernel⟩, by decide +kernel, by decide +kernel⟩
theorem cw_L_at : sg_ok (.initialized mi_L_at.1.cls) ∧ (mi_L_at.1.cls ≠ "java/lang/invoke/MethodHandle" ∧ mi_L_at.1.cls ≠ "java/lang/invoke/VarHandle") ∧ (parseMethodDescriptor mi_L_at.1.desc).map (fun d => d.parameters.length) = some 4 ∧ mi_L_at.2.2.1 ≤ 61 := ⟨sg_okt 0 (by decide +kernel), ⟨by decide +kernel, by decide +kernel⟩, by decide +kernel, by decide +kernel⟩
theorem cw_L_count : sg_ok (.initialized mi_L_count.1.cls) ∧ (mi_L_count.1.cls ≠ "java/lang/invoke/MethodHandle" ∧ mi_L_count.1.cls ≠ "java/lang/invoke/VarHandle") ∧ (parseMethodDescriptor mi_L_count.1.desc).map (fun d => d.parameters.length) = some 4 ∧ mi_L_count.2.2.1 ≤ 61 := ⟨sg_okt 0 (by decide +kernel), ⟨by decide +kernel, by decide +kernel⟩, by decide +kernel, by decide +kernel⟩
theorem cw_L_first : sg_ok (.initialized mi_L_first.1.cls) ∧ (mi_L_first.1.cls ≠ "java/lang/invoke/MethodHandle" ∧ mi_L_first.1.cls ≠ "java/lang/invoke/VarHandle") ∧ (parseMethodDescriptor mi_L_first.1.desc).map (fun d => d.parameters.length) = some 5 ∧ mi_L_first.2.2.1 ≤ 61 := ⟨sg_okt 0 (by decide +kernel), ⟨by decide +kernel, by decide +kernel⟩, by decide +kernel, by decide +kernel⟩
theorem cw_L_last : sg_ok (.initialized mi_L_last.1.cls) ∧ (mi_L_last.1.cls ≠ "java/lang/invoke/MethodHandle" ∧ mi_L_last.1.cls ≠ "java/lang/invoke/VarHandle") ∧ (parseMethodDescriptor mi_L_last.1.desc).map (fun d => d.parameters.length) = some 4 ∧ mi_L_last.2.2.1 ≤ 61 := ⟨sg_okt 0 (by decide +kernel), ⟨by decide +kernel, by decide +kernel⟩, by decide +kernel, by decide +kernel⟩
theorem cw_L_forms : sg_ok (.initialized mi_L_forms.1.cls) ∧ (mi_L_forms.1.cls ≠ "java/lang/invoke/MethodHandle" ∧ mi_L_forms.1.cls ≠ "java/lang/invoke/VarHandle") ∧ (parseMethodDescriptor mi_L_forms.1.desc).map (fun d => d.parameters.length) = some 3 ∧ mi_L_forms.2.2.1 ≤ 61 := ⟨sg_okt 0 (by decide +kernel), ⟨by decide +kernel, by decide +kernel⟩, by decide +kernel, by decide +kernel⟩
theorem cw_L_spelled : sg_ok (.initialized mi_L_spelled.1.cls) ∧ (mi_L_spelled.1.cls ≠ "java/lang/invoke/MethodHandle" ∧ mi_L_spelled.1.cls ≠ "java/lang/invoke/VarHandle") ∧ (parseMethodDescriptor mi_L_spelled.1.desc).map (fun d => d.parameters.length) = some 3 ∧ mi_L_spelled.2.2.1 ≤ 61 := ⟨sg_okt 0 (by decide +kernel), ⟨by decide +kernel, by decide +kernel⟩, by decide +kernel, by decide +kernel⟩
theorem cw_L_told : sg_ok (.initialized mi_L_told.1.cls) ∧ (mi_L_told.1.cls ≠ "java/lang/invoke/MethodHandle" ∧ mi_L_told.1.cls ≠ "java/lang/invoke/VarHandle") ∧ (parseMethodDescriptor mi_L_told.1.desc).map (fun d => d.parameters.length) = some 4 ∧ mi_L_told.2.2.1 ≤ 61 := ⟨sg_okt 0 (by decide +kernel), ⟨by decide +kernel, by decide +kernel⟩, by decide +kernel, by decide +kernel⟩
theorem cw_L_sum : sg_ok (.initialized mi_L_sum.1.cls) ∧ (mi_L_sum.1.cls ≠ "java/lang/invoke/MethodHandle" ∧ mi_L_sum.1.cls ≠ "java/lang/invoke/VarHandle") ∧ (parseMethodDescriptor mi_L_sum.1.desc).map (fun d => d.parameters.length) = some 4 ∧ mi_L_sum.2.2.1 ≤ 61 := ⟨sg_okt 0 (by decide +kernel), ⟨by decide +kernel, by decide +kernel⟩, by decide +kernel, by decide +kernel⟩
theorem cw_L_values : sg_ok (.initialized mi_L_values.1.cls) ∧ (mi_L_values.1.cls ≠ "java/lang/invoke/MethodHandle" ∧ mi_L_values.1.cls ≠ "java/lang/invoke/VarHandle") ∧ (parseMethodDescriptor mi_L_values.1.desc).map (fun d => d.parameters.length) = some 3 ∧ mi_L_values.2.2.1 ≤ 61 := ⟨sg_okt 0 (by decide +kernel), ⟨by decide +kernel, by decide +kernel⟩, by decide +kernel, by decide +kernel⟩
theorem cw_L_words : sg_ok (.initialized mi_L_words.1.cls) ∧ (mi_L_words.1.cls ≠ "java/lang/invoke/MethodHandle" ∧ mi_L_words.1.cls ≠ "java/lang/invoke/VarHandle") ∧ (parseMethodDescriptor mi_L_words.1.desc).map (fun d => d.parameters.length) = some 3 ∧ mi_L_words.2.2.1 ≤ 61 := ⟨sg_okt 0 (by decide +kernel), ⟨by decide +kernel, by decide +kernel⟩, by decide +kernel, by decide +kernel⟩
theorem cw_L_word : sg_ok (.initialized mi_L_word.1.cls) ∧ (mi_L_word.1.cls ≠ "java/lang/invoke/MethodHandle" ∧ mi_L_word.1.cls ≠ "java/lang/invoke/VarHandle") ∧ (parseMethodDescriptor mi_L_word.1.desc).map (fun d => d.parameters.length) = some 5 ∧ mi_L_word.2.2.1 ≤ 61 := ⟨sg_okt 0 (by decide +kernel), ⟨by decide +kernel, by decide +kernel⟩, by decide +kernel, by decide +kernel⟩
theorem cw_L_isAlike : sg_ok (.initialized mi_L_isAlike.1.cls) ∧ (mi_L_isAlike.1.cls ≠ "java/lang/invoke/MethodHandle" ∧ mi_L_isAlike.1.cls ≠ "java/lang/invoke/VarHandle") ∧ (parseMethodDescriptor mi_L_isAlike.1.desc).map (fun d => d.parameters.length) = some 4 ∧ mi_L_isAlike.2.2.1 ≤ 61 := ⟨sg_okt 0 (by decide +kernel), ⟨by decide +kernel, by decide +kernel⟩, by decide +kernel, by decide +kernel⟩
theorem cw_L_order : sg_ok (.initialized mi_L_order.1.cls) ∧ (mi_L_order.1.cls ≠ "java/lang/invoke/MethodHandle" ∧ mi_L_order.1.cls ≠ "java/lang/invoke/VarHandle") ∧ (parseMethodDescriptor mi_L_order.1.desc).map (fun d => d.parameters.length) = some 4 ∧ mi_L_order.2.2.1 ≤ 61 := ⟨sg_okt 0 (by decide +kernel), ⟨by decide +kernel, by decide +kernel⟩, by decide +kernel, by decide +kernel⟩
theorem cw_L_half : sg_ok (.initialized mi_L_half.1.cls) ∧ (mi_L_half.1.cls ≠ "java/lang/invoke/MethodHandle" ∧ mi_L_half.1.cls ≠ "java/lang/invoke/VarHandle") ∧ (parseMethodDescriptor mi_L_half.1.desc).map (fun d => d.parameters.length) = some 4 ∧ mi_L_half.2.2.1 ≤ 61 := ⟨sg_okt 0 (by decide +kernel), ⟨by decide +kernel, by decide +kernel⟩, by decide +kernel, by decide +kernel⟩
theorem cw_L_code : sg_ok (.initialized mi_L_code.1.cls) ∧ (mi_L_code.1.cls ≠ "java/lang/invoke/MethodHandle" ∧ mi_L_code.1.cls ≠ "java/lang/invoke/VarHandle") ∧ (parseMethodDescriptor mi_L_code.1.desc).map (fun d => d.parameters.length) = some 4 ∧ mi_L_code.2.2.1 ≤ 61 := ⟨sg_okt 0 (by decide +kernel), ⟨by decide +kernel, by decide +kernel⟩, by decide +kernel, by decide +kernel⟩
theorem cw_L_ofUnit : sg_ok (.initialized mi_L_ofUnit.1.cls) ∧ (mi_L_ofUnit.1.cls ≠ "java/lang/invoke/MethodHandle" ∧ mi_L_ofUnit.1.cls ≠ "java/lang/invoke/VarHandle") ∧ (parseMethodDescriptor mi_L_ofUnit.1.desc).map (fun d => d.parameters.length) = some 4 ∧ mi_L_ofUnit.2.2.1 ≤ 61 := ⟨sg_okt 0 (by decide +kernel), ⟨by decide +kernel, by decide +kernel⟩, by decide +kernel, by decide +kernel⟩
theorem cw_L_compare : sg_ok (.initialized mi_L_compare.1.cls) ∧ (mi_L_compare.1.cls ≠ "java/lang/invoke/MethodHandle" ∧ mi_L_compare.1.cls ≠ "java/lang/invoke/VarHandle") ∧ (parseMethodDescriptor mi_L_compare.1.desc).map (fun d => d.parameters.length) = some 4 ∧ mi_L_compare.2.2.1 ≤ 61 := ⟨sg_okt 0 (by decide +kernel), ⟨by decide +kernel, by decide +kernel⟩, by decide +kernel, by decide +kernel⟩
theorem cw_L_ofTrack : sg_ok (.initialized mi_L_ofTrack.1.cls) ∧ (mi_L_ofTrack.1.cls ≠ "java/lang/invoke/MethodHandle" ∧ mi_L_ofTrack.1.cls ≠ "java/lang/invoke/VarHandle") ∧ (parseMethodDescriptor mi_L_ofTrack.1.desc).map (fun d => d.parameters.length) = some 4 ∧ mi_L_ofTrack.2.2.1 ≤ 61 := ⟨sg_okt 0 (by decide +kernel), ⟨by decide +kernel, by decide +kernel⟩, by decide +kernel, by decide +kernel⟩
theorem cw_L_unit : sg_ok (.initialized mi_L_unit.1.cls) ∧ (mi_L_unit.1.cls ≠ "java/lang/invoke/MethodHandle" ∧ mi_L_unit.1.cls ≠ "java/lang/invoke/VarHandle") ∧ (parseMethodDescriptor mi_L_unit.1.desc).map (fun d => d.parameters.length) = some 4 ∧ mi_L_unit.2.2.1 ≤ 61 := ⟨sg_okt 0 (by decide +kernel), ⟨by decide +kernel, by decide +kernel⟩, by decide +kernel, by decide +kernel⟩
theorem cw_L_codeAt : sg_ok (.initialized mi_L_codeAt.1.cls) ∧ (mi_L_codeAt.1.cls ≠ "java/lang/invoke/MethodHandle" ∧ mi_L_codeAt.1.cls ≠ "java/lang/invoke/VarHandle") ∧ (parseMethodDescriptor mi_L_codeAt.1.desc).map (fun d => d.parameters.length) = some 4 ∧ mi_L_codeAt.2.2.1 ≤ 61 := ⟨sg_okt 0 (by decide +kernel), ⟨by decide +kernel, by decide +kernel⟩, by decide +kernel, by decide +kernel⟩
theorem cw_L_nth : sg_ok (.initialized mi_L_nth.1.cls) ∧ (mi_L_nth.1.cls ≠ "java/lang/invoke/MethodHandle" ∧ mi_L_nth.1.cls ≠ "java/lang/invoke/VarHandle") ∧ (parseMethodDescriptor mi_L_nth.1.desc).map (fun d => d.parameters.length) = some 4 ∧ mi_L_nth.2.2.1 ≤ 61 := ⟨sg_okt 0 (by decide +kernel), ⟨by decide +kernel, by decide +kernel⟩, by decide +kernel, by decide +kernel⟩
theorem cw_L_house : sg_ok (.initialized mi_L_house.1.cls) ∧ (mi_L_house.1.cls ≠ "java/lang/invoke/MethodHandle" ∧ mi_L_house.1.cls ≠ "java/lang/invoke/VarHandle") ∧ (parseMethodDescriptor mi_L_house.1.desc).map (fun d => d.parameters.length) = some 3 ∧ mi_L_house.2.2.1 ≤ 61 := ⟨sg_okt 0 (by decide +kernel), ⟨by decide +kernel, by decide +kernel⟩, by decide +kernel, by decide +kernel⟩
set_option maxRecDepth 100000 in
set_option maxHeartbeats 1000000 in
theorem lw_c0 {w : sg_W} {Q : sg_O → sg_H → Prop} {h : sg_H} (g : sg_G w) (nc : jk_C w) (hJ : jz w) {d mc ms : Nat} (hd : 30 ≤ d) {B M O S j k n : Nat} {xs : List Int} (hI : jk_I w B M O S xs h) (hj : 6 * j + 6 ≤ xs.length) (hl : xs.length ≤ 3072) (hk : k + 1030 ≤ mc) (hn : n + (48 + 1800) ≤ ms) (K : ∀ (h' : sg_H) (k' n' : Nat), jk_I w B M O S xs h' → k' ≤ k + 1030 → n' ≤ n + (48 + 1800) → sg_R w mi_L_law d mc ms Q 2465 [(0, sg_r S), (1, sg_r B), (2, sg_r M), (3, sg_r O), (4, sg_i (6 * (j : Int)))] [] h' k' n') : sg_R w mi_L_law d mc ms Q 292 [(0, sg_r S), (1, sg_r B), (2, sg_r M), (3, sg_r O), (4, sg_i (6 * (j : Int)))] [] h k n := by
  refine sg_aload_n (pc := 292) (j := 1) dL_law_292 rfl rfl ?_
  refine sg_aload_n (pc := 293) (j := 0) dL_law_293 rfl rfl ?_
  refine sg_iload (pc := 294) dL_law_294 rfl ?_
  refine sg_iconst (pc := 296) (z := 1) dL_law_296 (by decide) ?_
  first | refine sg_iaddB (pc := 297) dL_law_297 (by omega) (by omega) ?_ | refine sg_iadd (pc := 297) dL_law_297 ?_
  refine sg_iald (pc := 298) dL_law_298 hI.2.2.2.2.2.2.2.2.2 rfl (by omega) (jk_x (by omega) (by omega)) ?_
  refine sg_aload_n (pc := 299) (j := 0) dL_law_299 rfl rfl ?_
  refine sg_iload (pc := 300) dL_law_300 rfl ?_
  refine sg_iconst (pc := 302) (z := 2) dL_law_302 (by decide) ?_
  first | refine sg_iaddB (pc := 303) dL_law_303 (by omega) (by omega) ?_ | refine sg_iadd (pc := 303) dL_law_303 ?_
  refine sg_iald (pc := 304) dL_law_304 hI.2.2.2.2.2.2.2.2.2 rfl (by omega) (jk_x (by omega) (by omega)) ?_
  refine sg_aload_n (pc := 305) (j := 0) dL_law_305 rfl rfl ?_
  refine sg_iload (pc := 306) dL_law_306 rfl ?_
  refine sg_iconst (pc := 308) (z := 3) dL_law_308 (by decide) ?_
  first | refine sg_iaddB (pc := 309) dL_law_309 (by omega) (by omega) ?_ | refine sg_iadd (pc := 309) dL_law_309 ?_
  refine sg_iald (pc := 310) dL_law_310 hI.2.2.2.2.2.2.2.2.2 rfl (by omega) (jk_x (by omega) (by omega)) ?_
  refine sg_aload_n (pc := 311) (j := 0) dL_law_311 rfl rfl ?_
  refine sg_iload (pc := 312) dL_law_312 rfl ?_
  refine sg_iconst (pc := 314) (z := 4) dL_law_314 (by decide) ?_
  first | refine sg_iaddB (pc := 315) dL_law_315 (by omega) (by omega) ?_ | refine sg_iadd (pc := 315) dL_law_315 ?_
  refine sg_iald (pc := 316) dL_law_316 hI.2.2.2.2.2.2.2.2.2 rfl (by omega) (jk_x (by omega) (by omega)) ?_
  refine sg_aload_n (pc := 317) (j := 0) dL_law_317 rfl rfl ?_
  refine sg_iload (pc := 318) dL_law_318 rfl ?_
  refine sg_iconst (pc := 320) (z := 5) dL_law_320 (by decide) ?_
  first | refine sg_iaddB (pc := 321) dL_law_321 (by omega) (by omega) ?_ | refine sg_iadd (pc := 321) dL_law_321 ?_
  refine sg_iald (pc := 322) dL_law_322 hI.2.2.2.2.2.2.2.2.2 rfl (by omega) (jk_x (by omega) (by omega)) ?_
  refine sg_aload_n (pc := 323) (j := 3) dL_law_323 rfl rfl ?_
  refine st_cS7 (pc := 324) (d' := d - 1) (mc' := 8) (ms' := 48) g dL_law_324 cb_L_lay cw_L_lay ml_L_190 ms_L_lay (Nat.le_of_ble_eq_true rfl) (by first | exact jl_d0 hd rfl | omega) (by first | exact Nat.le_of_ble_eq_true rfl | omega) (by first | exact Nat.le_of_ble_eq_true rfl | omega) ?_
  refine s_L_lay g nc (by omega) hI (fun v1 h1 I1 X1 => sg_K1 ?_)
  refine sg_istore (pc := 327) dL_law_327 (by decide) ?_
  refine sg_aload_n (pc := 329) (j := 2) dL_law_329 rfl rfl ?_
  refine sg_aload_n (pc := 330) (j := 0) dL_law_330 rfl rfl ?_
  refine sg_iload (pc := 331) dL_law_331 rfl ?_
  refine sg_iconst (pc := 333) (z := 1) dL_law_333 (by decide) ?_
  first | refine sg_iaddB (pc := 334) dL_law_334 (by omega) (by omega) ?_ | refine sg_iadd (pc := 334) dL_law_334 ?_
  refine sg_iald (pc := 335) dL_law_335 I1.2.2.2.2.2.2.2.2.2 rfl (by omega) (jk_x (by omega) (by omega)) ?_
  refine sg_aload_n (pc := 336) (j := 0) dL_law_336 rfl rfl ?_
  refine sg_iload (pc := 337) dL_law_337 rfl ?_
  refine sg_iconst (pc := 339) (z := 2) dL_law_339 (by decide) ?_
  first | refine sg_iaddB (pc := 340) dL_law_340 (by omega) (by omega) ?_ | refine sg_iadd (pc := 340) dL_law_340 ?_
  refine sg_iald (pc := 341) dL_law_341 I1.2.2.2.2.2.2.2.2.2 rfl (by omega) (jk_x (by omega) (by omega)) ?_
  refine sg_aload_n (pc := 342) (j := 0) dL_law_342 rfl rfl ?_
  refine sg_iload (pc := 343) dL_law_343 rfl ?_
  refine sg_iconst (pc := 345) (z := 3) dL_law_345 (by decide) ?_
  first | refine sg_iaddB (pc := 346) dL_law_346 (by omega) (by omega) ?_ | refine sg_iadd (pc := 346) dL_law_346 ?_
  refine sg_iald (pc := 347) dL_law_347 I1.2.2.2.2.2.2.2.2.2 rfl (by omega) (jk_x (by omega) (by omega)) ?_
  refine sg_aload_n (pc := 348) (j := 0) dL_law_348 rfl rfl ?_
  refine sg_iload (pc := 349) dL_law_349 rfl ?_
  refine sg_iconst (pc := 351) (z := 4) dL_law_351 (by decide) ?_
  first | refine sg_iaddB (pc := 352) dL_law_352 (by omega) (by omega) ?_ | refine sg_iadd (pc := 352) dL_law_352 ?_
  refine sg_iald (pc := 353) dL_law_353 I1.2.2.2.2.2.2.2.2.2 rfl (by omega) (jk_x (by omega) (by omega)) ?_
  refine sg_aload_n (pc := 354) (j := 0) dL_law_354 rfl rfl ?_
  refine sg_iload (pc := 355) dL_law_355 rfl ?_
  refine sg_iconst (pc := 357) (z := 5) dL_law_357 (by decide) ?_
  first | refine sg_iaddB (pc := 358) dL_law_358 (by omega) (by omega) ?_ | refine sg_iadd (pc := 358) dL_law_358 ?_
  refine sg_iald (pc := 359) dL_law_359 I1.2.2.2.2.2.2.2.2.2 rfl (by omega) (jk_x (by omega) (by omega)) ?_
  refine st_as (fun H r => jk_tgR (B := B) r) ?_
  have m2 := jk_Im I1
  refine sg_cE5 (pc := 360) (d' := d - 1) (mc' := 86) (ms' := 1800) 8 g dL_law_360 cb_X7_lay ml_L_195 mn_X7_lay rfl mv_X7_lay (Nat.le_of_ble_eq_true rfl) (md_oc m2) (Nat.le_of_ble_eq_true rfl) (by first | exact jl_d0 hd rfl | omega) (by first | exact Nat.le_of_ble_eq_true rfl | omega) (by first | exact Nat.le_of_ble_eq_true rfl | omega) ?_
  refine s_X7_lay g (by first | exact jl_d1 hd rfl | omega) m2 (fun v2 h2  y2 => sg_K1 ?_)
  refine st_as (fun H r => jk_unR I1.1 r) ?_
  have I2 := jk_IM I1 y2
  refine sg_istore (pc := 363) dL_law_363 (by decide) ?_
  refine sg_goto (pc := 365) (tgt := 2465) dL_law_365 (by decide) ?_
  refine sg_lsub (lv' := [(0, _), (1, _), (2, _), (3, _), (4, _)]) ⟨rfl, rfl, rfl, rfl, rfl, trivial⟩ ?_
  exact K _ _ _ I2 (by omega) (by omega)

set_option maxRecDepth 100000 in
set_option maxHeartbeats 1000000 in
theorem lw_c1 {w : sg_W} {Q : sg_O → sg_H → Prop} {h : sg_H} (g : sg_G w) (nc : jk_C w) (hJ : jz w) {d mc ms : Nat} (hd : 30 ≤ d) {B M O S j k n : Nat} {xs : List Int} (hI : jk_I w B M O S xs h) (hj : 6 * j + 6 ≤ xs.length) (hl : xs.length ≤ 3072) (hk : k + 1030 ≤ mc) (hn : n + (48 + 56) ≤ ms) (K : ∀ (h' : sg_H) (k' n' : Nat), jk_I w B M O S xs h' → k' ≤ k + 1030 → n' ≤ n + (48 + 56) → sg_R w mi_L_law d mc ms Q 2465 [(0, sg_r S), (1, sg_r B), (2, sg_r M), (3, sg_r O), (4, sg_i (6 * (j : Int)))] [] h' k' n') : sg_R w mi_L_law d mc ms Q 368 [(0, sg_r S), (1, sg_r B), (2, sg_r M), (3, sg_r O), (4, sg_i (6 * (j : Int)))] [] h k n := by
  refine sg_aload_n (pc := 368) (j := 1) dL_law_368 rfl rfl ?_
  refine sg_aload_n (pc := 369) (j := 0) dL_law_369 rfl rfl ?_
  refine sg_iload (pc := 370) dL_law_370 rfl ?_
  refine sg_iconst (pc := 372) (z := 1) dL_law_372 (by decide) ?_
  first | refine sg_iaddB (pc := 373) dL_law_373 (by omega) (by omega) ?_ | refine sg_iadd (pc := 373) dL_law_373 ?_
  refine sg_iald (pc := 374) dL_law_374 hI.2.2.2.2.2.2.2.2.2 rfl (by omega) (jk_x (by omega) (by omega)) ?_
  refine sg_aload_n (pc := 375) (j := 0) dL_law_375 rfl rfl ?_
  refine sg_iload (pc := 376) dL_law_376 rfl ?_
  refine sg_iconst (pc := 378) (z := 2) dL_law_378 (by decide) ?_
  first | refine sg_iaddB (pc := 379) dL_law_379 (by omega) (by omega) ?_ | refine sg_iadd (pc := 379) dL_law_379 ?_
  refine sg_iald (pc := 380) dL_law_380 hI.2.2.2.2.2.2.2.2.2 rfl (by omega) (jk_x (by omega) (by omega)) ?_
  refine sg_aload_n (pc := 381) (j := 3) dL_law_381 rfl rfl ?_
  refine st_cS4 (pc := 382) (d' := d - 1) (mc' := 8) (ms' := 48) g dL_law_382 cb_L_drop cw_L_drop ml_L_196 ms_L_drop (Nat.le_of_ble_eq_true rfl) (by first | exact jl_d0 hd rfl | omega) (by first | exact Nat.le_of_ble_eq_true rfl | omega) (by first | exact Nat.le_of_ble_eq_true rfl | omega) ?_
  refine s_L_drop g nc (by omega) hI (fun v1 h1 I1 X1 => sg_K1 ?_)
  refine sg_istore (pc := 385) dL_law_385 (by decide) ?_
  refine sg_aload_n (pc := 387) (j := 2) dL_law_387 rfl rfl ?_
  refine sg_aload_n (pc := 388) (j := 0) dL_law_388 rfl rfl ?_
  refine sg_iload (pc := 389) dL_law_389 rfl ?_
  refine sg_iconst (pc := 391) (z := 1) dL_law_391 (by decide) ?_
  first | refine sg_iaddB (pc := 392) dL_law_392 (by omega) (by omega) ?_ | refine sg_iadd (pc := 392) dL_law_392 ?_
  refine sg_iald (pc := 393) dL_law_393 I1.2.2.2.2.2.2.2.2.2 rfl (by omega) (jk_x (by omega) (by omega)) ?_
  refine sg_aload_n (pc := 394) (j := 0) dL_law_394 rfl rfl ?_
  refine sg_iload (pc := 395) dL_law_395 rfl ?_
  refine sg_iconst (pc := 397) (z := 2) dL_law_397 (by decide) ?_
  first | refine sg_iaddB (pc := 398) dL_law_398 (by omega) (by omega) ?_ | refine sg_iadd (pc := 398) dL_law_398 ?_
  refine sg_iald (pc := 399) dL_law_399 I1.2.2.2.2.2.2.2.2.2 rfl (by omega) (jk_x (by omega) (by omega)) ?_
  refine st_as (fun H r => jk_tgR (B := B) r) ?_
  have m2 := jk_Im I1
  refine sg_cE2 (pc := 400) (d' := d - 1) (mc' := 3) (ms' := 56) 8 g dL_law_400 cb_X7_drop ml_L_199 mn_X7_drop rfl mv_X7_drop (Nat.le_of_ble_eq_true rfl) (md_oc m2) (Nat.le_of_ble_eq_true rfl) (by first | exact jl_d0 hd rfl | omega) (by first | exact Nat.le_of_ble_eq_true rfl | omega) (by first | exact Nat.le_of_ble_eq_true rfl | omega) ?_
  refine s_X7_drop g (by first | exact jl_d1 hd rfl | omega) m2 (fun v2 h2  y2 => sg_K1 ?_)
  refine st_as (fun H r => jk_unR I1.1 r) ?_
  have I2 := jk_IM I1 y2
  refine sg_istore (pc := 403) dL_law_403 (by decide) ?_
  refine sg_goto (pc := 405) (tgt := 2465) dL_law_405 (by decide) ?_
  refine sg_lsub (lv' := [(0, _), (1, _), (2, _), (3, _), (4, _)]) ⟨rfl, rfl, rfl, rfl, rfl, trivial⟩ ?_
  exact K _ _ _ I2 (by omega) (by omega)

set_option maxRecDepth 100000 in
set_option maxHeartbeats 1000000 in
theorem lw_c2 {w : sg_W} {Q : sg_O → sg_H → Prop} {h : sg_H} (g : sg_G w) (nc : jk_C w) (hJ : jz w) {d mc ms : Nat} (hd : 30 ≤ d) {B M O S j k n : Nat} {xs : List Int} (hI : jk_I w B M O S xs h) (hj : 6 * j + 6 ≤ xs.length) (hl : xs.length ≤ 3072) (hk : k + 1030 ≤ mc) (hn : n + (48 + 16) ≤ ms) (K : ∀ (h' : sg_H) (k' n' : Nat), jk_I w B M O S xs h' → k' ≤ k + 1030 → n' ≤ n + (48 + 16) → sg_R w mi_L_law d mc ms Q 2465 [(0, sg_r S), (1, sg_r B), (2, sg_r M), (3, sg_r O), (4, sg_i (6 * (j : Int)))] [] h' k' n') : sg_R w mi_L_law d mc ms Q 408 [(0, sg_r S), (1, sg_r B), (2, sg_r M), (3, sg_r O), (4, sg_i (6 * (j : Int)))] [] h k n := by
  refine sg_aload_n (pc := 408) (j := 1) dL_law_408 rfl rfl ?_
  refine sg_aload_n (pc := 409) (j := 0) dL_law_409 rfl rfl ?_
  refine sg_iload (pc := 410) dL_law_410 rfl ?_
  refine sg_iconst (pc := 412) (z := 1) dL_law_412 (by decide) ?_
  first | refine sg_iaddB (pc := 413) dL_law_413 (by omega) (by omega) ?_ | refine sg_iadd (pc := 413) dL_law_413 ?_
  refine sg_iald (pc := 414) dL_law_414 hI.2.2.2.2.2.2.2.2.2 rfl (by omega) (jk_x (by omega) (by omega)) ?_
  refine sg_aload_n (pc := 415) (j := 0) dL_law_415 rfl rfl ?_
  refine sg_iload (pc := 416) dL_law_416 rfl ?_
  refine sg_iconst (pc := 418) (z := 2) dL_law_418 (by decide) ?_
  first | refine sg_iaddB (pc := 419) dL_law_419 (by omega) (by omega) ?_ | refine sg_iadd (pc := 419) dL_law_419 ?_
  refine sg_iald (pc := 420) dL_law_420 hI.2.2.2.2.2.2.2.2.2 rfl (by omega) (jk_x (by omega) (by omega)) ?_
  refine sg_aload_n (pc := 421) (j := 3) dL_law_421 rfl rfl ?_
  refine st_cS4 (pc := 422) (d' := d - 1) (mc' := 8) (ms' := 48) g dL_law_422 cb_L_copy cw_L_copy ml_L_200 ms_L_copy (Nat.le_of_ble_eq_true rfl) (by first | exact jl_d0 hd rfl | omega) (by first | exact Nat.le_of_ble_eq_true rfl | omega) (by first | exact Nat.le_of_ble_eq_true rfl | omega) ?_
  refine s_L_copy g nc (by omega) hI (fun v1 h1 I1 X1 => sg_K1 ?_)
  refine sg_istore (pc := 425) dL_law_425 (by decide) ?_
  refine sg_aload_n (pc := 427) (j := 2) dL_law_427 rfl rfl ?_
  refine sg_aload_n (pc := 428) (j := 0) dL_law_428 rfl rfl ?_
  refine sg_iload (pc := 429) dL_law_429 rfl ?_
  refine sg_iconst (pc := 431) (z := 1) dL_law_431 (by decide) ?_
  first | refine sg_iaddB (pc := 432) dL_law_432 (by omega) (by omega) ?_ | refine sg_iadd (pc := 432) dL_law_432 ?_
  refine sg_iald (pc := 433) dL_law_433 I1.2.2.2.2.2.2.2.2.2 rfl (by omega) (jk_x (by omega) (by omega)) ?_
  refine sg_aload_n (pc := 434) (j := 0) dL_law_434 rfl rfl ?_
  refine sg_iload (pc := 435) dL_law_435 rfl ?_
  refine sg_iconst (pc := 437) (z := 2) dL_law_437 (by decide) ?_
  first | refine sg_iaddB (pc := 438) dL_law_438 (by omega) (by omega) ?_ | refine sg_iadd (pc := 438) dL_law_438 ?_
  refine sg_iald (pc := 439) dL_law_439 I1.2.2.2.2.2.2.2.2.2 rfl (by omega) (jk_x (by omega) (by omega)) ?_
  refine st_as (fun H r => jk_tgR (B := B) r) ?_
  have m2 := jk_Im I1
  refine sg_cE2 (pc := 440) (d' := d - 1) (mc' := 2) (ms' := 16) 8 g dL_law_440 cb_X7_copy ml_L_202 mn_X7_copy rfl mv_X7_copy (Nat.le_of_ble_eq_true rfl) (md_oc m2) (Nat.le_of_ble_eq_true rfl) (by first | exact jl_d0 hd rfl | omega) (by first | exact Nat.le_of_ble_eq_true rfl | omega) (by first | exact Nat.le_of_ble_eq_true rfl | omega) ?_
  refine s_X7_copy g (by first | exact jl_d1 hd rfl | omega) m2 (fun v2 h2  y2 => sg_K1 ?_)
  refine st_as (fun H r => jk_unR I1.1 r) ?_
  have I2 := jk_IM I1 y2
  refine sg_istore (pc := 443) dL_law_443 (by decide) ?_
  refine sg_goto (pc := 445) (tgt := 2465) dL_law_445 (by decide) ?_
  refine sg_lsub (lv' := [(0, _), (1, _), (2, _), (3, _), (4, _)]) ⟨rfl, rfl, rfl, rfl, rfl, trivial⟩ ?_
  exact K _ _ _ I2 (by omega) (by omega)

set_option maxRecDepth 100000 in
set_option maxHeartbeats 1000000 in
theorem lw_c3 {w : sg_W} {Q : sg_O → sg_H → Prop} {h : sg_H} (g : sg_G w) (nc : jk_C w) (hJ : jz w) {d mc ms : Nat} (hd : 30 ≤ d) {B M O S j k n : Nat} {xs : List Int} (hI : jk_I w B M O S xs h) (hj : 6 * j + 6 ≤ xs.length) (hl : xs.length ≤ 3072) (hk : k + 1030 ≤ mc) (hn : n + (48 + 56) ≤ ms) (K : ∀ (h' : sg_H) (k' n' : Nat), jk_I w B M O S xs h' → k' ≤ k + 1030 → n' ≤ n + (48 + 56) → sg_R w mi_L_law d mc ms Q 2465 [(0, sg_r S), (1, sg_r B), (2, sg_r M), (3, sg_r O), (4, sg_i (6 * (j : Int)))] [] h' k' n') : sg_R w mi_L_law d mc ms Q 448 [(0, sg_r S), (1, sg_r B), (2, sg_r M), (3, sg_r O), (4, sg_i (6 * (j : Int)))] [] h k n := by
  refine sg_aload_n (pc := 448) (j := 1) dL_law_448 rfl rfl ?_
  refine sg_aload_n (pc := 449) (j := 0) dL_law_449 rfl rfl ?_
  refine sg_iload (pc := 450) dL_law_450 rfl ?_
  refine sg_iconst (pc := 452) (z := 1) dL_law_452 (by decide) ?_
  first | refine sg_iaddB (pc := 453) dL_law_453 (by omega) (by omega) ?_ | refine sg_iadd (pc := 453) dL_law_453 ?_
  refine sg_iald (pc := 454) dL_law_454 hI.2.2.2.2.2.2.2.2.2 rfl (by omega) (jk_x (by omega) (by omega)) ?_
  refine sg_aload_n (pc := 455) (j := 3) dL_law_455 rfl rfl ?_
  refine st_cS3 (pc := 456) (d' := d - 1) (mc' := 8) (ms' := 48) g dL_law_456 cb_L_raise cw_L_raise ml_L_203 ms_L_raise (Nat.le_of_ble_eq_true rfl) (by first | exact jl_d0 hd rfl | omega) (by first | exact Nat.le_of_ble_eq_true rfl | omega) (by first | exact Nat.le_of_ble_eq_true rfl | omega) ?_
  refine s_L_raise g nc (by omega) hI (fun v1 h1 I1 X1 => sg_K1 ?_)
  refine sg_istore (pc := 459) dL_law_459 (by decide) ?_
  refine sg_aload_n (pc := 461) (j := 2) dL_law_461 rfl rfl ?_
  refine sg_aload_n (pc := 462) (j := 0) dL_law_462 rfl rfl ?_
  refine sg_iload (pc := 463) dL_law_463 rfl ?_
  refine sg_iconst (pc := 465) (z := 1) dL_law_465 (by decide) ?_
  first | refine sg_iaddB (pc := 466) dL_law_466 (by omega) (by omega) ?_ | refine sg_iadd (pc := 466) dL_law_466 ?_
  refine sg_iald (pc := 467) dL_law_467 I1.2.2.2.2.2.2.2.2.2 rfl (by omega) (jk_x (by omega) (by omega)) ?_
  refine st_as (fun H r => jk_tgR (B := B) r) ?_
  have m2 := jk_Im I1
  refine sg_cE1 (pc := 468) (d' := d - 1) (mc' := 3) (ms' := 56) 8 g dL_law_468 cb_X7_raise ml_L_206 mn_X7_raise rfl mv_X7_raise (Nat.le_of_ble_eq_true rfl) (md_oc m2) (Nat.le_of_ble_eq_true rfl) (by first | exact jl_d0 hd rfl | omega) (by first | exact Nat.le_of_ble_eq_true rfl | omega) (by first | exact Nat.le_of_ble_eq_true rfl | omega) ?_
  refine s_X7_raise g (by first | exact jl_d1 hd rfl | omega) m2 (fun v2 h2  y2 => sg_K1 ?_)
  refine st_as (fun H r => jk_unR I1.1 r) ?_
  have I2 := jk_IM I1 y2
  refine sg_istore (pc := 471) dL_law_471 (by decide) ?_
  refine sg_goto (pc := 473) (tgt := 2465) dL_law_473 (by decide) ?_
  refine sg_lsub (lv' := [(0, _), (1, _), (2, _), (3, _), (4, _)]) ⟨rfl, rfl, rfl, rfl, rfl, trivial⟩ ?_
  exact K _ _ _ I2 (by omega) (by omega)

set_option maxRecDepth 100000 in
set_option maxHeartbeats 1000000 in
theorem lw_c4 {w : sg_W} {Q : sg_O → sg_H → Prop} {h : sg_H} (g : sg_G w) (nc : jk_C w) (hJ : jz w) {d mc ms : Nat} (hd : 30 ≤ d) {B M O S j k n : Nat} {xs : List Int} (hI : jk_I w B M O S xs h) (hj : 6 * j + 6 ≤ xs.length) (hl : xs.length ≤ 3072) (hk : k + 1030 ≤ mc) (hn : n + (48 + 56) ≤ ms) (K : ∀ (h' : sg_H) (k' n' : Nat), jk_I w B M O S xs h' → k' ≤ k + 1030 → n' ≤ n + (48 + 56) → sg_R w mi_L_law d mc ms Q 2465 [(0, sg_r S), (1, sg_r B), (2, sg_r M), (3, sg_r O), (4, sg_i (6 * (j : Int)))] [] h' k' n') : sg_R w mi_L_law d mc ms Q 476 [(0, sg_r S), (1, sg_r B), (2, sg_r M), (3, sg_r O), (4, sg_i (6 * (j : Int)))] [] h k n := by
  refine sg_aload_n (pc := 476) (j := 1) dL_law_476 rfl rfl ?_
  refine sg_aload_n (pc := 477) (j := 0) dL_law_477 rfl rfl ?_
  refine sg_iload (pc := 478) dL_law_478 rfl ?_
  refine sg_iconst (pc := 480) (z := 1) dL_law_480 (by decide) ?_
  first | refine sg_iaddB (pc := 481) dL_law_481 (by omega) (by omega) ?_ | refine sg_iadd (pc := 481) dL_law_481 ?_
  refine sg_iald (pc := 482) dL_law_482 hI.2.2.2.2.2.2.2.2.2 rfl (by omega) (jk_x (by omega) (by omega)) ?_
  refine sg_aload_n (pc := 483) (j := 3) dL_law_483 rfl rfl ?_
  refine st_cS3 (pc := 484) (d' := d - 1) (mc' := 8) (ms' := 48) g dL_law_484 cb_L_sink cw_L_sink ml_L_207 ms_L_sink (Nat.le_of_ble_eq_true rfl) (by first | exact jl_d0 hd rfl | omega) (by first | exact Nat.le_of_ble_eq_true rfl | omega) (by first | exact Nat.le_of_ble_eq_true rfl | omega) ?_
  refine s_L_sink g nc (by omega) hI (fun v1 h1 I1 X1 => sg_K1 ?_)
  refine sg_istore (pc := 487) dL_law_487 (by decide) ?_
  refine sg_aload_n (pc := 489) (j := 2) dL_law_489 rfl rfl ?_
  refine sg_aload_n (pc := 490) (j := 0) dL_law_490 rfl rfl ?_
  refine sg_iload (pc := 491) dL_law_491 rfl ?_
  refine sg_iconst (pc := 493) (z := 1) dL_law_493 (by decide) ?_
  first | refine sg_iaddB (pc := 494) dL_law_494 (by omega) (by omega) ?_ | refine sg_iadd (pc := 494) dL_law_494 ?_
  refine sg_iald (pc := 495) dL_law_495 I1.2.2.2.2.2.2.2.2.2 rfl (by omega) (jk_x (by omega) (by omega)) ?_
  refine st_as (fun H r => jk_tgR (B := B) r) ?_
  have m2 := jk_Im I1
  refine sg_cE1 (pc := 496) (d' := d - 1) (mc' := 3) (ms' := 56) 8 g dL_law_496 cb_X7_sink ml_L_209 mn_X7_sink rfl mv_X7_sink (Nat.le_of_ble_eq_true rfl) (md_oc m2) (Nat.le_of_ble_eq_true rfl) (by first | exact jl_d0 hd rfl | omega) (by first | exact Nat.le_of_ble_eq_true rfl | omega) (by first | exact Nat.le_of_ble_eq_true rfl | omega) ?_
  refine s_X7_sink g (by first | exact jl_d1 hd rfl | omega) m2 (fun v2 h2  y2 => sg_K1 ?_)
  refine st_as (fun H r => jk_unR I1.1 r) ?_
  have I2 := jk_IM I1 y2
  refine sg_istore (pc := 499) dL_law_499 (by decide) ?_
  refine sg_goto (pc := 501) (tgt := 2465) dL_law_501 (by decide) ?_
  refine sg_lsub (lv' := [(0, _), (1, _), (2, _), (3, _), (4, _)]) ⟨rfl, rfl, rfl, rfl, rfl, trivial⟩ ?_
  exact K _ _ _ I2 (by omega) (by omega)

set_option maxRecDepth 100000 in
set_option maxHeartbeats 1000000 in
theorem lw_c5 {w : sg_W} {Q : sg_O → sg_H → Prop} {h : sg_H} (g : sg_G w) (nc : jk_C w) (hJ : jz w) {d mc ms : Nat} (hd : 30 ≤ d) {B M O S j k n : Nat} {xs : List Int} (hI : jk_I w B M O S xs h) (hj : 6 * j + 6 ≤ xs.length) (hl : xs.length ≤ 3072) (hk : k + 1030 ≤ mc) (hn : n + (48 + 1736) ≤ ms) (K : ∀ (h' : sg_H) (k' n' : Nat), jk_I w B M O S xs h' → k' ≤ k + 1030 → n' ≤ n + (48 + 1736) → sg_R w mi_L_law d mc ms Q 2465 [(0, sg_r S), (1, sg_r B), (2, sg_r M), (3, sg_r O), (4, sg_i (6 * (j : Int)))] [] h' k' n') : sg_R w mi_L_law d mc ms Q 504 [(0, sg_r S), (1, sg_r B), (2, sg_r M), (3, sg_r O), (4, sg_i (6 * (j : Int)))] [] h k n := by
  refine sg_aload_n (pc := 504) (j := 1) dL_law_504 rfl rfl ?_
  refine sg_aload_n (pc := 505) (j := 0) dL_law_505 rfl rfl ?_
  refine sg_iload (pc := 506) dL_law_506 rfl ?_
  refine sg_iconst (pc := 508) (z := 1) dL_law_508 (by decide) ?_
  first | refine sg_iaddB (pc := 509) dL_law_509 (by omega) (by omega) ?_ | refine sg_iadd (pc := 509) dL_law_509 ?_
  refine sg_iald (pc := 510) dL_law_510 hI.2.2.2.2.2.2.2.2.2 rfl (by omega) (jk_x (by omega) (by omega)) ?_
  refine sg_aload_n (pc := 511) (j := 0) dL_law_511 rfl rfl ?_
  refine sg_iload (pc := 512) dL_law_512 rfl ?_
  refine sg_iconst (pc := 514) (z := 2) dL_law_514 (by decide) ?_
  first | refine sg_iaddB (pc := 515) dL_law_515 (by omega) (by omega) ?_ | refine sg_iadd (pc := 515) dL_law_515 ?_
  refine sg_iald (pc := 516) dL_law_516 hI.2.2.2.2.2.2.2.2.2 rfl (by omega) (jk_x (by omega) (by omega)) ?_
  refine sg_aload_n (pc := 517) (j := 0) dL_law_517 rfl rfl ?_
  refine sg_iload (pc := 518) dL_law_518 rfl ?_
  refine sg_iconst (pc := 520) (z := 3) dL_law_520 (by decide) ?_
  first | refine sg_iaddB (pc := 521) dL_law_521 (by omega) (by omega) ?_ | refine sg_iadd (pc := 521) dL_law_521 ?_
  refine sg_iald (pc := 522) dL_law_522 hI.2.2.2.2.2.2.2.2.2 rfl (by omega) (jk_x (by omega) (by omega)) ?_
  refine sg_if_eq (pc := 523) (tgt := 530) dL_law_523 (by decide) (fun c523 => ?_) (fun c523 => ?_)
  · refine sg_iconst (pc := 530) (z := 0) dL_law_530 (by decide) ?_
    refine sg_aload_n (pc := 531) (j := 3) dL_law_531 rfl rfl ?_
    refine st_cS5 (pc := 532) (d' := d - 1) (mc' := 8) (ms' := 48) g dL_law_532 cb_L_sieve cw_L_sieve ml_L_210 ms_L_sieve (Nat.le_of_ble_eq_true rfl) (by first | exact jl_d0 hd rfl | omega) (by first | exact Nat.le_of_ble_eq_true rfl | omega) (by first | exact Nat.le_of_ble_eq_true rfl | omega) ?_
    refine s_L_sieve g nc (by omega) hI (fun v1 h1 I1 X1 => sg_K1 ?_)
    refine sg_istore (pc := 535) dL_law_535 (by decide) ?_
    refine sg_aload_n (pc := 537) (j := 2) dL_law_537 rfl rfl ?_
    refine sg_aload_n (pc := 538) (j := 0) dL_law_538 rfl rfl ?_
    refine sg_iload (pc := 539) dL_law_539 rfl ?_
    refine sg_iconst (pc := 541) (z := 1) dL_law_541 (by decide) ?_
    first | refine sg_iaddB (pc := 542) dL_law_542 (by omega) (by omega) ?_ | refine sg_iadd (pc := 542) dL_law_542 ?_
    refine sg_iald (pc := 543) dL_law_543 I1.2.2.2.2.2.2.2.2.2 rfl (by omega) (jk_x (by omega) (by omega)) ?_
    refine sg_aload_n (pc := 544) (j := 0) dL_law_544 rfl rfl ?_
    refine sg_iload (pc := 545) dL_law_545 rfl ?_
    refine sg_iconst (pc := 547) (z := 2) dL_law_547 (by decide) ?_
    first | refine sg_iaddB (pc := 548) dL_law_548 (by omega) (by omega) ?_ | refine sg_iadd (pc := 548) dL_law_548 ?_
    refine sg_iald (pc := 549) dL_law_549 I1.2.2.2.2.2.2.2.2.2 rfl (by omega) (jk_x (by omega) (by omega)) ?_
    refine sg_aload_n (pc := 550) (j := 0) dL_law_550 rfl rfl ?_
    refine sg_iload (pc := 551) dL_law_551 rfl ?_
    refine sg_iconst (pc := 553) (z := 3) dL_law_553 (by decide) ?_
    first | refine sg_iaddB (pc := 554) dL_law_554 (by omega) (by omega) ?_ | refine sg_iadd (pc := 554) dL_law_554 ?_
    refine sg_iald (pc := 555) dL_law_555 I1.2.2.2.2.2.2.2.2.2 rfl (by omega) (jk_x (by omega) (by omega)) ?_
    refine sg_if_eq (pc := 556) (tgt := 563) dL_law_556 (by decide) (fun c556 => ?_) (fun c556 => ?_)
    · refine sg_iconst (pc := 563) (z := 0) dL_law_563 (by decide) ?_
      refine st_as (fun H r => jk_tgR (B := B) r) ?_
      have m2 := jk_Im I1
      refine sg_cE3 (pc := 564) (d' := d - 1) (mc' := 84) (ms' := 1736) 8 g dL_law_564 cb_X7_sieve ml_L_213 mn_X7_sieve rfl mv_X7_sieve (Nat.le_of_ble_eq_true rfl) (md_oc m2) (Nat.le_of_ble_eq_true rfl) (by first | exact jl_d0 hd rfl | omega) (by first | exact Nat.le_of_ble_eq_true rfl | omega) (by first | exact Nat.le_of_ble_eq_true rfl | omega) ?_
      refine s_X7_sieve g (by first | exact jl_d1 hd rfl | omega) m2 (fun v2 h2  y2 => sg_K1 ?_)
      refine st_as (fun H r => jk_unR I1.1 r) ?_
      have I2 := jk_IM I1 y2
      refine sg_istore (pc := 567) dL_law_567 (by decide) ?_
      refine sg_goto (pc := 569) (tgt := 2465) dL_law_569 (by decide) ?_
      refine sg_lsub (lv' := [(0, _), (1, _), (2, _), (3, _), (4, _)]) ⟨rfl, rfl, rfl, rfl, rfl, trivial⟩ ?_
      exact K _ _ _ I2 (by omega) (by omega)
    · refine sg_iconst (pc := 559) (z := 1) dL_law_559 (by decide) ?_
      refine sg_goto (pc := 560) (tgt := 564) dL_law_560 (by decide) ?_
      refine st_as (fun H r => jk_tgR (B := B) r) ?_
      have m3 := jk_Im I1
      refine sg_cE3 (pc := 564) (d' := d - 1) (mc' := 84) (ms' := 1736) 8 g dL_law_564 cb_X7_sieve ml_L_213 mn_X7_sieve rfl mv_X7_sieve (Nat.le_of_ble_eq_true rfl) (md_oc m3) (Nat.le_of_ble_eq_true rfl) (by first | exact jl_d0 hd rfl | omega) (by first | exact Nat.le_of_ble_eq_true rfl | omega) (by first | exact Nat.le_of_ble_eq_true rfl | omega) ?_
      refine s_X7_sieve g (by first | exact jl_d1 hd rfl | omega) m3 (fun v3 h3  y3 => sg_K1 ?_)
      refine st_as (fun H r => jk_unR I1.1 r) ?_
      have I3 := jk_IM I1 y3
      refine sg_istore (pc := 567) dL_law_567 (by decide) ?_
      refine sg_goto (pc := 569) (tgt := 2465) dL_law_569 (by decide) ?_
      refine sg_lsub (lv' := [(0, _), (1, _), (2, _), (3, _), (4, _)]) ⟨rfl, rfl, rfl, rfl, rfl, trivial⟩ ?_
      exact K _ _ _ I3 (by omega) (by omega)
  · refine sg_iconst (pc := 526) (z := 1) dL_law_526 (by decide) ?_
    refine sg_goto (pc := 527) (tgt := 531) dL_law_527 (by decide) ?_
    refine sg_aload_n (pc := 531) (j := 3) dL_law_531 rfl rfl ?_
    refine st_cS5 (pc := 532) (d' := d - 1) (mc' := 8) (ms' := 48) g dL_law_532 cb_L_sieve cw_L_sieve ml_L_210 ms_L_sieve (Nat.le_of_ble_eq_true rfl) (by first | exact jl_d0 hd rfl | omega) (by first | exact Nat.le_of_ble_eq_true rfl | omega) (by first | exact Nat.le_of_ble_eq_true rfl | omega) ?_
    refine s_L_sieve g nc (by omega) hI (fun v4 h4 I4 X4 => sg_K1 ?_)
    refine sg_istore (pc := 535) dL_law_535 (by decide) ?_
    refine sg_aload_n (pc := 537) (j := 2) dL_law_537 rfl rfl ?_
    refine sg_aload_n (pc := 538) (j := 0) dL_law_538 rfl rfl ?_
    refine sg_iload (pc := 539) dL_law_539 rfl ?_
    refine sg_iconst (pc := 541) (z := 1) dL_law_541 (by decide) ?_
    first | refine sg_iaddB (pc := 542) dL_law_542 (by omega) (by omega) ?_ | refine sg_iadd (pc := 542) dL_law_542 ?_
    refine sg_iald (pc := 543) dL_law_543 I4.2.2.2.2.2.2.2.2.2 rfl (by omega) (jk_x (by omega) (by omega)) ?_
    refine sg_aload_n (pc := 544) (j := 0) dL_law_544 rfl rfl ?_
    refine sg_iload (pc := 545) dL_law_545 rfl ?_
    refine sg_iconst (pc := 547) (z := 2) dL_law_547 (by decide) ?_
    first | refine sg_iaddB (pc := 548) dL_law_548 (by omega) (by omega) ?_ | refine sg_iadd (pc := 548) dL_law_548 ?_
    refine sg_iald (pc := 549) dL_law_549 I4.2.2.2.2.2.2.2.2.2 rfl (by omega) (jk_x (by omega) (by omega)) ?_
    refine sg_aload_n (pc := 550) (j := 0) dL_law_550 rfl rfl ?_
    refine sg_iload (pc := 551) dL_law_551 rfl ?_
    refine sg_iconst (pc := 553) (z := 3) dL_law_553 (by decide) ?_
    first | refine sg_iaddB (pc := 554) dL_law_554 (by omega) (by omega) ?_ | refine sg_iadd (pc := 554) dL_law_554 ?_
    refine sg_iald (pc := 555) dL_law_555 I4.2.2.2.2.2.2.2.2.2 rfl (by omega) (jk_x (by omega) (by omega)) ?_
    refine sg_if_eq (pc := 556) (tgt := 563) dL_law_556 (by decide) (fun c556 => ?_) (fun c556 => ?_)
    · refine sg_iconst (pc := 563) (z := 0) dL_law_563 (by decide) ?_
      refine st_as (fun H r => jk_tgR (B := B) r) ?_
      have m5 := jk_Im I4
      refine sg_cE3 (pc := 564) (d' := d - 1) (mc' := 84) (ms' := 1736) 8 g dL_law_564 cb_X7_sieve ml_L_213 mn_X7_sieve rfl mv_X7_sieve (Nat.le_of_ble_eq_true rfl) (md_oc m5) (Nat.le_of_ble_eq_true rfl) (by first | exact jl_d0 hd rfl | omega) (by first | exact Nat.le_of_ble_eq_true rfl | omega) (by first | exact Nat.le_of_ble_eq_true rfl | omega) ?_
      refine s_X7_sieve g (by first | exact jl_d1 hd rfl | omega) m5 (fun v5 h5  y5 => sg_K1 ?_)
      refine st_as (fun H r => jk_unR I4.1 r) ?_
      have I5 := jk_IM I4 y5
      refine sg_istore (pc := 567) dL_law_567 (by decide) ?_
      refine sg_goto (pc := 569) (tgt := 2465) dL_law_569 (by decide) ?_
      refine sg_lsub (lv' := [(0, _), (1, _), (2, _), (3, _), (4, _)]) ⟨rfl, rfl, rfl, rfl, rfl, trivial⟩ ?_
      exact K _ _ _ I5 (by omega) (by omega)
    · refine sg_iconst (pc := 559) (z := 1) dL_law_559 (by decide) ?_
      refine sg_goto (pc := 560) (tgt := 564) dL_law_560 (by decide) ?_
      refine st_as (fun H r => jk_tgR (B := B) r) ?_
      have m6 := jk_Im I4
      refine sg_cE3 (pc := 564) (d' := d - 1) (mc' := 84) (ms' := 1736) 8 g dL_law_564 cb_X7_sieve ml_L_213 mn_X7_sieve rfl mv_X7_sieve (Nat.le_of_ble_eq_true rfl) (md_oc m6) (Nat.le_of_ble_eq_true rfl) (by first | exact jl_d0 hd rfl | omega) (by first | exact Nat.le_of_ble_eq_true rfl | omega) (by first | exact Nat.le_of_ble_eq_true rfl | omega) ?_
      refine s_X7_sieve g (by first | exact jl_d1 hd rfl | omega) m6 (fun v6 h6  y6 => sg_K1 ?_)
      refine st_as (fun H r => jk_unR I4.1 r) ?_
      have I6 := jk_IM I4 y6
      refine sg_istore (pc := 567) dL_law_567 (by decide) ?_
      refine sg_goto (pc := 569) (tgt := 2465) dL_law_569 (by decide) ?_
      refine sg_lsub (lv' := [(0, _), (1, _), (2, _), (3, _), (4, _)]) ⟨rfl, rfl, rfl, rfl, rfl, trivial⟩ ?_
      exact K _ _ _ I6 (by omega) (by omega)

set_option maxRecDepth 100000 in
set_option maxHeartbeats 1000000 in
theorem lw_c6 {w : sg_W} {Q : sg_O → sg_H → Prop} {h : sg_H} (g : sg_G w) (nc : jk_C w) (hJ : jz w) {d mc ms : Nat} (hd : 30 ≤ d) {B M O S j k n : Nat} {xs : List Int} (hI : jk_I w B M O S xs h) (hj : 6 * j + 6 ≤ xs.length) (hl : xs.length ≤ 3072) (hk : k + 1030 ≤ mc) (hn : n + (48 + 56) ≤ ms) (K : ∀ (h' : sg_H) (k' n' : Nat), jk_I w B M O S xs h' → k' ≤ k + 1030 → n' ≤ n + (48 + 56) → sg_R w mi_L_law d mc ms Q 2465 [(0, sg_r S), (1, sg_r B), (2, sg_r M), (3, sg_r O), (4, sg_i (6 * (j : Int)))] [] h' k' n') : sg_R w mi_L_law d mc ms Q 572 [(0, sg_r S), (1, sg_r B), (2, sg_r M), (3, sg_r O), (4, sg_i (6 * (j : Int)))] [] h k n := by
  refine sg_aload_n (pc := 572) (j := 1) dL_law_572 rfl rfl ?_
  refine sg_aload_n (pc := 573) (j := 0) dL_law_573 rfl rfl ?_
  refine sg_iload (pc := 574) dL_law_574 rfl ?_
  refine sg_iconst (pc := 576) (z := 1) dL_law_576 (by decide) ?_
  first | refine sg_iaddB (pc := 577) dL_law_577 (by omega) (by omega) ?_ | refine sg_iadd (pc := 577) dL_law_577 ?_
  refine sg_iald (pc := 578) dL_law_578 hI.2.2.2.2.2.2.2.2.2 rfl (by omega) (jk_x (by omega) (by omega)) ?_
  refine sg_aload_n (pc := 579) (j := 3) dL_law_579 rfl rfl ?_
  refine st_cS3 (pc := 580) (d' := d - 1) (mc' := 8) (ms' := 48) g dL_law_580 cb_L_strip cw_L_strip ml_L_214 ms_L_strip (Nat.le_of_ble_eq_true rfl) (by first | exact jl_d0 hd rfl | omega) (by first | exact Nat.le_of_ble_eq_true rfl | omega) (by first | exact Nat.le_of_ble_eq_true rfl | omega) ?_
  refine s_L_strip g nc (by omega) hI (fun v1 h1 I1 X1 => sg_K1 ?_)
  refine sg_istore (pc := 583) dL_law_583 (by decide) ?_
  refine sg_aload_n (pc := 585) (j := 2) dL_law_585 rfl rfl ?_
  refine sg_aload_n (pc := 586) (j := 0) dL_law_586 rfl rfl ?_
  refine sg_iload (pc := 587) dL_law_587 rfl ?_
  refine sg_iconst (pc := 589) (z := 1) dL_law_589 (by decide) ?_
  first | refine sg_iaddB (pc := 590) dL_law_590 (by omega) (by omega) ?_ | refine sg_iadd (pc := 590) dL_law_590 ?_
  refine sg_iald (pc := 591) dL_law_591 I1.2.2.2.2.2.2.2.2.2 rfl (by omega) (jk_x (by omega) (by omega)) ?_
  refine st_as (fun H r => jk_tgR (B := B) r) ?_
  have m2 := jk_Im I1
  refine sg_cE1 (pc := 592) (d' := d - 1) (mc' := 3) (ms' := 56) 8 g dL_law_592 cb_X7_strip ml_L_216 mn_X7_strip rfl mv_X7_strip (Nat.le_of_ble_eq_true rfl) (md_oc m2) (Nat.le_of_ble_eq_true rfl) (by first | exact jl_d0 hd rfl | omega) (by first | exact Nat.le_of_ble_eq_true rfl | omega) (by first | exact Nat.le_of_ble_eq_true rfl | omega) ?_
  refine s_X7_strip g (by first | exact jl_d1 hd rfl | omega) m2 (fun v2 h2  y2 => sg_K1 ?_)
  refine st_as (fun H r => jk_unR I1.1 r) ?_
  have I2 := jk_IM I1 y2
  refine sg_istore (pc := 595) dL_law_595 (by decide) ?_
  refine sg_goto (pc := 597) (tgt := 2465) dL_law_597 (by decide) ?_
  refine sg_lsub (lv' := [(0, _), (1, _), (2, _), (3, _), (4, _)]) ⟨rfl, rfl, rfl, rfl, rfl, trivial⟩ ?_
  exact K _ _ _ I2 (by omega) (by omega)

set_option maxRecDepth 100000 in
set_option maxHeartbeats 1000000 in
theorem lw_c7 {w : sg_W} {Q : sg_O → sg_H → Prop} {h : sg_H} (g : sg_G w) (nc : jk_C w) (hJ : jz w) {d mc ms : Nat} (hd : 30 ≤ d) {B M O S j k n : Nat} {xs : List Int} (hI : jk_I w B M O S xs h) (hj : 6 * j + 6 ≤ xs.length) (hl : xs.length ≤ 3072) (hk : k + 1030 ≤ mc) (hn : n + (48 + 56) ≤ ms) (K : ∀ (h' : sg_H) (k' n' : Nat), jk_I w B M O S xs h' → k' ≤ k + 1030 → n' ≤ n + (48 + 56) → sg_R w mi_L_law d mc ms Q 2465 [(0, sg_r S), (1, sg_r B), (2, sg_r M), (3, sg_r O), (4, sg_i (6 * (j : Int)))] [] h' k' n') : sg_R w mi_L_law d mc ms Q 600 [(0, sg_r S), (1, sg_r B), (2, sg_r M), (3, sg_r O), (4, sg_i (6 * (j : Int)))] [] h k n := by
  refine sg_aload_n (pc := 600) (j := 1) dL_law_600 rfl rfl ?_
  refine sg_aload_n (pc := 601) (j := 0) dL_law_601 rfl rfl ?_
  refine sg_iload (pc := 602) dL_law_602 rfl ?_
  refine sg_iconst (pc := 604) (z := 1) dL_law_604 (by decide) ?_
  first | refine sg_iaddB (pc := 605) dL_law_605 (by omega) (by omega) ?_ | refine sg_iadd (pc := 605) dL_law_605 ?_
  refine sg_iald (pc := 606) dL_law_606 hI.2.2.2.2.2.2.2.2.2 rfl (by omega) (jk_x (by omega) (by omega)) ?_
  refine sg_aload_n (pc := 607) (j := 3) dL_law_607 rfl rfl ?_
  refine st_cS3 (pc := 608) (d' := d - 1) (mc' := 8) (ms' := 48) g dL_law_608 cb_L_turn cw_L_turn ml_L_217 ms_L_turn (Nat.le_of_ble_eq_true rfl) (by first | exact jl_d0 hd rfl | omega) (by first | exact Nat.le_of_ble_eq_true rfl | omega) (by first | exact Nat.le_of_ble_eq_true rfl | omega) ?_
  refine s_L_turn g nc (by omega) hI (fun v1 h1 I1 X1 => sg_K1 ?_)
  refine sg_istore (pc := 611) dL_law_611 (by decide) ?_
  refine sg_aload_n (pc := 613) (j := 2) dL_law_613 rfl rfl ?_
  refine sg_aload_n (pc := 614) (j := 0) dL_law_614 rfl rfl ?_
  refine sg_iload (pc := 615) dL_law_615 rfl ?_
  refine sg_iconst (pc := 617) (z := 1) dL_law_617 (by decide) ?_
  first | refine sg_iaddB (pc := 618) dL_law_618 (by omega) (by omega) ?_ | refine sg_iadd (pc := 618) dL_law_618 ?_
  refine sg_iald (pc := 619) dL_law_619 I1.2.2.2.2.2.2.2.2.2 rfl (by omega) (jk_x (by omega) (by omega)) ?_
  refine st_as (fun H r => jk_tgR (B := B) r) ?_
  have m2 := jk_Im I1
  refine sg_cE1 (pc := 620) (d' := d - 1) (mc' := 3) (ms' := 56) 8 g dL_law_620 cb_X7_turn ml_L_219 mn_X7_turn rfl mv_X7_turn (Nat.le_of_ble_eq_true rfl) (md_oc m2) (Nat.le_of_ble_eq_true rfl) (by first | exact jl_d0 hd rfl | omega) (by first | exact Nat.le_of_ble_eq_true rfl | omega) (by first | exact Nat.le_of_ble_eq_true rfl | omega) ?_
  refine s_X7_turn g (by first | exact jl_d1 hd rfl | omega) m2 (fun v2 h2  y2 => sg_K1 ?_)
  refine st_as (fun H r => jk_unR I1.1 r) ?_
  have I2 := jk_IM I1 y2
  refine sg_istore (pc := 623) dL_law_623 (by decide) ?_
  refine sg_goto (pc := 625) (tgt := 2465) dL_law_625 (by decide) ?_
  refine sg_lsub (lv' := [(0, _), (1, _), (2, _), (3, _), (4, _)]) ⟨rfl, rfl, rfl, rfl, rfl, trivial⟩ ?_
  exact K _ _ _ I2 (by omega) (by omega)

set_option maxRecDepth 100000 in
set_option maxHeartbeats 1000000 in
theorem lw_c8 {w : sg_W} {Q : sg_O → sg_H → Prop} {h : sg_H} (g : sg_G w) (nc : jk_C w) (hJ : jz w) {d mc ms : Nat} (hd : 30 ≤ d) {B M O S j k n : Nat} {xs : List Int} (hI : jk_I w B M O S xs h) (hj : 6 * j + 6 ≤ xs.length) (hl : xs.length ≤ 3072) (hk : k + 1030 ≤ mc) (hn : n + (48 + 560) ≤ ms) (K : ∀ (h' : sg_H) (k' n' : Nat), jk_I w B M O S xs h' → k' ≤ k + 1030 → n' ≤ n + (48 + 560) → sg_R w mi_L_law d mc ms Q 2465 [(0, sg_r S), (1, sg_r B), (2, sg_r M), (3, sg_r O), (4, sg_i (6 * (j : Int)))] [] h' k' n') : sg_R w mi_L_law d mc ms Q 628 [(0, sg_r S), (1, sg_r B), (2, sg_r M), (3, sg_r O), (4, sg_i (6 * (j : Int)))] [] h k n := by
  refine sg_aload_n (pc := 628) (j := 1) dL_law_628 rfl rfl ?_
  refine sg_aload_n (pc := 629) (j := 0) dL_law_629 rfl rfl ?_
  refine sg_iload (pc := 630) dL_law_630 rfl ?_
  refine sg_iconst (pc := 632) (z := 1) dL_law_632 (by decide) ?_
  first | refine sg_iaddB (pc := 633) dL_law_633 (by omega) (by omega) ?_ | refine sg_iadd (pc := 633) dL_law_633 ?_
  refine sg_iald (pc := 634) dL_law_634 hI.2.2.2.2.2.2.2.2.2 rfl (by omega) (jk_x (by omega) (by omega)) ?_
  refine sg_aload_n (pc := 635) (j := 0) dL_law_635 rfl rfl ?_
  refine sg_iload (pc := 636) dL_law_636 rfl ?_
  refine sg_iconst (pc := 638) (z := 2) dL_law_638 (by decide) ?_
  first | refine sg_iaddB (pc := 639) dL_law_639 (by omega) (by omega) ?_ | refine sg_iadd (pc := 639) dL_law_639 ?_
  refine sg_iald (pc := 640) dL_law_640 hI.2.2.2.2.2.2.2.2.2 rfl (by omega) (jk_x (by omega) (by omega)) ?_
  refine sg_aload_n (pc := 641) (j := 0) dL_law_641 rfl rfl ?_
  refine sg_iload (pc := 642) dL_law_642 rfl ?_
  refine sg_iconst (pc := 644) (z := 3) dL_law_644 (by decide) ?_
  first | refine sg_iaddB (pc := 645) dL_law_645 (by omega) (by omega) ?_ | refine sg_iadd (pc := 645) dL_law_645 ?_
  refine sg_iald (pc := 646) dL_law_646 hI.2.2.2.2.2.2.2.2.2 rfl (by omega) (jk_x (by omega) (by omega)) ?_
  refine sg_aload_n (pc := 647) (j := 3) dL_law_647 rfl rfl ?_
  refine st_cS5 (pc := 648) (d' := d - 1) (mc' := 8) (ms' := 48) g dL_law_648 cb_L_write cw_L_write ml_L_220 ms_L_write (Nat.le_of_ble_eq_true rfl) (by first | exact jl_d0 hd rfl | omega) (by first | exact Nat.le_of_ble_eq_true rfl | omega) (by first | exact Nat.le_of_ble_eq_true rfl | omega) ?_
  refine s_L_write g nc (by omega) hI (fun v1 h1 I1 X1 => sg_K1 ?_)
  refine sg_istore (pc := 651) dL_law_651 (by decide) ?_
  refine sg_aload_n (pc := 653) (j := 2) dL_law_653 rfl rfl ?_
  refine sg_aload_n (pc := 654) (j := 0) dL_law_654 rfl rfl ?_
  refine sg_iload (pc := 655) dL_law_655 rfl ?_
  refine sg_iconst (pc := 657) (z := 1) dL_law_657 (by decide) ?_
  first | refine sg_iaddB (pc := 658) dL_law_658 (by omega) (by omega) ?_ | refine sg_iadd (pc := 658) dL_law_658 ?_
  refine sg_iald (pc := 659) dL_law_659 I1.2.2.2.2.2.2.2.2.2 rfl (by omega) (jk_x (by omega) (by omega)) ?_
  refine sg_aload_n (pc := 660) (j := 0) dL_law_660 rfl rfl ?_
  refine sg_iload (pc := 661) dL_law_661 rfl ?_
  refine sg_iconst (pc := 663) (z := 2) dL_law_663 (by decide) ?_
  first | refine sg_iaddB (pc := 664) dL_law_664 (by omega) (by omega) ?_ | refine sg_iadd (pc := 664) dL_law_664 ?_
  refine sg_iald (pc := 665) dL_law_665 I1.2.2.2.2.2.2.2.2.2 rfl (by omega) (jk_x (by omega) (by omega)) ?_
  refine sg_aload_n (pc := 666) (j := 0) dL_law_666 rfl rfl ?_
  refine sg_iload (pc := 667) dL_law_667 rfl ?_
  refine sg_iconst (pc := 669) (z := 3) dL_law_669 (by decide) ?_
  first | refine sg_iaddB (pc := 670) dL_law_670 (by omega) (by omega) ?_ | refine sg_iadd (pc := 670) dL_law_670 ?_
  refine sg_iald (pc := 671) dL_law_671 I1.2.2.2.2.2.2.2.2.2 rfl (by omega) (jk_x (by omega) (by omega)) ?_
  refine st_as (fun H r => jk_tgR (B := B) r) ?_
  have m2 := jk_Im I1
  refine sg_cE3 (pc := 672) (d' := d - 1) (mc' := 44) (ms' := 560) 8 g dL_law_672 cb_X7_write ml_L_223 mn_X7_write rfl mv_X7_write (Nat.le_of_ble_eq_true rfl) (md_oc m2) (Nat.le_of_ble_eq_true rfl) (by first | exact jl_d0 hd rfl | omega) (by first | exact Nat.le_of_ble_eq_true rfl | omega) (by first | exact Nat.le_of_ble_eq_true rfl | omega) ?_
  refine s_X7_write g (by first | exact jl_d1 hd rfl | omega) m2 (fun v2 h2  y2 => sg_K1 ?_)
  refine st_as (fun H r => jk_unR I1.1 r) ?_
  have I2 := jk_IM I1 y2
  refine sg_istore (pc := 675) dL_law_675 (by decide) ?_
  refine sg_goto (pc := 677) (tgt := 2465) dL_law_677 (by decide) ?_
  refine sg_lsub (lv' := [(0, _), (1, _), (2, _), (3, _), (4, _)]) ⟨rfl, rfl, rfl, rfl, rfl, trivial⟩ ?_
  exact K _ _ _ I2 (by omega) (by omega)

set_option maxRecDepth 100000 in
set_option maxHeartbeats 1000000 in
theorem lw_c9 {w : sg_W} {Q : sg_O → sg_H → Prop} {h : sg_H} (g : sg_G w) (nc : jk_C w) (hJ : jz w) {d mc ms : Nat} (hd : 30 ≤ d) {B M O S j k n : Nat} {xs : List Int} (hI : jk_I w B M O S xs h) (hj : 6 * j + 6 ≤ xs.length) (hl : xs.length ≤ 3072) (hk : k + 1030 ≤ mc) (hn : n + (48 + 56) ≤ ms) (K : ∀ (h' : sg_H) (k' n' : Nat), jk_I w B M O S xs h' → k' ≤ k + 1030 → n' ≤ n + (48 + 56) → sg_R w mi_L_law d mc ms Q 2465 [(0, sg_r S), (1, sg_r B), (2, sg_r M), (3, sg_r O), (4, sg_i (6 * (j : Int)))] [] h' k' n') : sg_R w mi_L_law d mc ms Q 680 [(0, sg_r S), (1, sg_r B), (2, sg_r M), (3, sg_r O), (4, sg_i (6 * (j : Int)))] [] h k n := by
  refine sg_aload_n (pc := 680) (j := 1) dL_law_680 rfl rfl ?_
  refine sg_aload_n (pc := 681) (j := 0) dL_law_681 rfl rfl ?_
  refine sg_iload (pc := 682) dL_law_682 rfl ?_
  refine sg_iconst (pc := 684) (z := 1) dL_law_684 (by decide) ?_
  first | refine sg_iaddB (pc := 685) dL_law_685 (by omega) (by omega) ?_ | refine sg_iadd (pc := 685) dL_law_685 ?_
  refine sg_iald (pc := 686) dL_law_686 hI.2.2.2.2.2.2.2.2.2 rfl (by omega) (jk_x (by omega) (by omega)) ?_
  refine sg_aload_n (pc := 687) (j := 0) dL_law_687 rfl rfl ?_
  refine sg_iload (pc := 688) dL_law_688 rfl ?_
  refine sg_iconst (pc := 690) (z := 2) dL_law_690 (by decide) ?_
  first | refine sg_iaddB (pc := 691) dL_law_691 (by omega) (by omega) ?_ | refine sg_iadd (pc := 691) dL_law_691 ?_
  refine sg_iald (pc := 692) dL_law_692 hI.2.2.2.2.2.2.2.2.2 rfl (by omega) (jk_x (by omega) (by omega)) ?_
  refine sg_aload_n (pc := 693) (j := 3) dL_law_693 rfl rfl ?_
  refine st_cS4 (pc := 694) (d' := d - 1) (mc' := 8) (ms' := 48) g dL_law_694 cb_L_spell cw_L_spell ml_L_224 ms_L_spell (Nat.le_of_ble_eq_true rfl) (by first | exact jl_d0 hd rfl | omega) (by first | exact Nat.le_of_ble_eq_true rfl | omega) (by first | exact Nat.le_of_ble_eq_true rfl | omega) ?_
  refine s_L_spell g nc (by omega) hI (fun v1 h1 I1 X1 => sg_K1 ?_)
  refine sg_istore (pc := 697) dL_law_697 (by decide) ?_
  refine sg_aload_n (pc := 699) (j := 2) dL_law_699 rfl rfl ?_
  refine sg_aload_n (pc := 700) (j := 0) dL_law_700 rfl rfl ?_
  refine sg_iload (pc := 701) dL_law_701 rfl ?_
  refine sg_iconst (pc := 703) (z := 1) dL_law_703 (by decide) ?_
  first | refine sg_iaddB (pc := 704) dL_law_704 (by omega) (by omega) ?_ | refine sg_iadd (pc := 704) dL_law_704 ?_
  refine sg_iald (pc := 705) dL_law_705 I1.2.2.2.2.2.2.2.2.2 rfl (by omega) (jk_x (by omega) (by omega)) ?_
  refine sg_aload_n (pc := 706) (j := 0) dL_law_706 rfl rfl ?_
  refine sg_iload (pc := 707) dL_law_707 rfl ?_
  refine sg_iconst (pc := 709) (z := 2) dL_law_709 (by decide) ?_
  first | refine sg_iaddB (pc := 710) dL_law_710 (by omega) (by omega) ?_ | refine sg_iadd (pc := 710) dL_law_710 ?_
  refine sg_iald (pc := 711) dL_law_711 I1.2.2.2.2.2.2.2.2.2 rfl (by omega) (jk_x (by omega) (by omega)) ?_
  refine st_as (fun H r => jk_tgR (B := B) r) ?_
  have m2 := jk_Im I1
  refine sg_cE2 (pc := 712) (d' := d - 1) (mc' := 3) (ms' := 56) 8 g dL_law_712 cb_X7_spell ml_L_226 mn_X7_spell rfl mv_X7_spell (Nat.le_of_ble_eq_true rfl) (md_oc m2) (Nat.le_of_ble_eq_true rfl) (by first | exact jl_d0 hd rfl | omega) (by first | exact Nat.le_of_ble_eq_true rfl | omega) (by first | exact Nat.le_of_ble_eq_true rfl | omega) ?_
  refine s_X7_spell g (by first | exact jl_d1 hd rfl | omega) m2 (fun v2 h2  y2 => sg_K1 ?_)
  refine st_as (fun H r => jk_unR I1.1 r) ?_
  have I2 := jk_IM I1 y2
  refine sg_istore (pc := 715) dL_law_715 (by decide) ?_
  refine sg_goto (pc := 717) (tgt := 2465) dL_law_717 (by decide) ?_
  refine sg_lsub (lv' := [(0, _), (1, _), (2, _), (3, _), (4, _)]) ⟨rfl, rfl, rfl, rfl, rfl, trivial⟩ ?_
  exact K _ _ _ I2 (by omega) (by omega)

set_option maxRecDepth 100000 in
set_option maxHeartbeats 1000000 in
theorem lw_c10 {w : sg_W} {Q : sg_O → sg_H → Prop} {h : sg_H} (g : sg_G w) (nc : jk_C w) (hJ : jz w) {d mc ms : Nat} (hd : 30 ≤ d) {B M O S j k n : Nat} {xs : List Int} (hI : jk_I w B M O S xs h) (hj : 6 * j + 6 ≤ xs.length) (hl : xs.length ≤ 3072) (hk : k + 1030 ≤ mc) (hn : n + (48 + 56) ≤ ms) (K : ∀ (h' : sg_H) (k' n' : Nat), jk_I w B M O S xs h' → k' ≤ k + 1030 → n' ≤ n + (48 + 56) → sg_R w mi_L_law d mc ms Q 2465 [(0, sg_r S), (1, sg_r B), (2, sg_r M), (3, sg_r O), (4, sg_i (6 * (j : Int)))] [] h' k' n') : sg_R w mi_L_law d mc ms Q 720 [(0, sg_r S), (1, sg_r B), (2, sg_r M), (3, sg_r O), (4, sg_i (6 * (j : Int)))] [] h k n := by
  refine sg_aload_n (pc := 720) (j := 1) dL_law_720 rfl rfl ?_
  refine sg_aload_n (pc := 721) (j := 0) dL_law_721 rfl rfl ?_
  refine sg_iload (pc := 722) dL_law_722 rfl ?_
  refine sg_iconst (pc := 724) (z := 1) dL_law_724 (by decide) ?_
  first | refine sg_iaddB (pc := 725) dL_law_725 (by omega) (by omega) ?_ | refine sg_iadd (pc := 725) dL_law_725 ?_
  refine sg_iald (pc := 726) dL_law_726 hI.2.2.2.2.2.2.2.2.2 rfl (by omega) (jk_x (by omega) (by omega)) ?_
  refine sg_aload_n (pc := 727) (j := 0) dL_law_727 rfl rfl ?_
  refine sg_iload (pc := 728) dL_law_728 rfl ?_
  refine sg_iconst (pc := 730) (z := 2) dL_law_730 (by decide) ?_
  first | refine sg_iaddB (pc := 731) dL_law_731 (by omega) (by omega) ?_ | refine sg_iadd (pc := 731) dL_law_731 ?_
  refine sg_iald (pc := 732) dL_law_732 hI.2.2.2.2.2.2.2.2.2 rfl (by omega) (jk_x (by omega) (by omega)) ?_
  refine sg_aload_n (pc := 733) (j := 3) dL_law_733 rfl rfl ?_
  refine st_cS4 (pc := 734) (d' := d - 1) (mc' := 8) (ms' := 48) g dL_law_734 cb_L_read cw_L_read ml_L_227 ms_L_read (Nat.le_of_ble_eq_true rfl) (by first | exact jl_d0 hd rfl | omega) (by first | exact Nat.le_of_ble_eq_true rfl | omega) (by first | exact Nat.le_of_ble_eq_true rfl | omega) ?_
  refine s_L_read g nc (by omega) hI (fun v1 h1 I1 X1 => sg_K1 ?_)
  refine sg_istore (pc := 737) dL_law_737 (by decide) ?_
  refine sg_aload_n (pc := 739) (j := 2) dL_law_739 rfl rfl ?_
  refine sg_aload_n (pc := 740) (j := 0) dL_law_740 rfl rfl ?_
  refine sg_iload (pc := 741) dL_law_741 rfl ?_
  refine sg_iconst (pc := 743) (z := 1) dL_law_743 (by decide) ?_
  first | refine sg_iaddB (pc := 744) dL_law_744 (by omega) (by omega) ?_ | refine sg_iadd (pc := 744) dL_law_744 ?_
  refine sg_iald (pc := 745) dL_law_745 I1.2.2.2.2.2.2.2.2.2 rfl (by omega) (jk_x (by omega) (by omega)) ?_
  refine sg_aload_n (pc := 746) (j := 0) dL_law_746 rfl rfl ?_
  refine sg_iload (pc := 747) dL_law_747 rfl ?_
  refine sg_iconst (pc := 749) (z := 2) dL_law_749 (by decide) ?_
  first | refine sg_iaddB (pc := 750) dL_law_750 (by omega) (by omega) ?_ | refine sg_iadd (pc := 750) dL_law_750 ?_
  refine sg_iald (pc := 751) dL_law_751 I1.2.2.2.2.2.2.2.2.2 rfl (by omega) (jk_x (by omega) (by omega)) ?_
  refine st_as (fun H r => jk_tgR (B := B) r) ?_
  have m2 := jk_Im I1
  refine sg_cE2 (pc := 752) (d' := d - 1) (mc' := 3) (ms' := 56) 8 g dL_law_752 cb_X7_read ml_L_229 mn_X7_read rfl mv_X7_read (Nat.le_of_ble_eq_true rfl) (md_oc m2) (Nat.le_of_ble_eq_true rfl) (by first | exact jl_d0 hd rfl | omega) (by first | exact Nat.le_of_ble_eq_true rfl | omega) (by first | exact Nat.le_of_ble_eq_true rfl | omega) ?_
  refine s_X7_read g (by first | exact jl_d1 hd rfl | omega) m2 (fun v2 h2  y2 => sg_K1 ?_)
  refine st_as (fun H r => jk_unR I1.1 r) ?_
  have I2 := jk_IM I1 y2
  refine sg_istore (pc := 755) dL_law_755 (by decide) ?_
  refine sg_goto (pc := 757) (tgt := 2465) dL_law_757 (by decide) ?_
  refine sg_lsub (lv' := [(0, _), (1, _), (2, _), (3, _), (4, _)]) ⟨rfl, rfl, rfl, rfl, rfl, trivial⟩ ?_
  exact K _ _ _ I2 (by omega) (by omega)

set_option maxRecDepth 100000 in
set_option maxHeartbeats 1000000 in
theorem lw_c11 {w : sg_W} {Q : sg_O → sg_H → Prop} {h : sg_H} (g : sg_G w) (nc : jk_C w) (hJ : jz w) {d mc ms : Nat} (hd : 30 ≤ d) {B M O S j k n : Nat} {xs : List Int} (hI : jk_I w B M O S xs h) (hj : 6 * j + 6 ≤ xs.length) (hl : xs.length ≤ 3072) (hk : k + 1030 ≤ mc) (hn : n + (48 + 82) ≤ ms) (K : ∀ (h' : sg_H) (k' n' : Nat), jk_I w B M O S xs h' → k' ≤ k + 1030 → n' ≤ n + (48 + 82) → sg_R w mi_L_law d mc ms Q 2465 [(0, sg_r S), (1, sg_r B), (2, sg_r M), (3, sg_r O), (4, sg_i (6 * (j : Int)))] [] h' k' n') : sg_R w mi_L_law d mc ms Q 760 [(0, sg_r S), (1, sg_r B), (2, sg_r M), (3, sg_r O), (4, sg_i (6 * (j : Int)))] [] h k n := by
  refine sg_aload_n (pc := 760) (j := 1) dL_law_760 rfl rfl ?_
  refine sg_aload_n (pc := 761) (j := 0) dL_law_761 rfl rfl ?_
  refine sg_iload (pc := 762) dL_law_762 rfl ?_
  refine sg_iconst (pc := 764) (z := 1) dL_law_764 (by decide) ?_
  first | refine sg_iaddB (pc := 765) dL_law_765 (by omega) (by omega) ?_ | refine sg_iadd (pc := 765) dL_law_765 ?_
  refine sg_iald (pc := 766) dL_law_766 hI.2.2.2.2.2.2.2.2.2 rfl (by omega) (jk_x (by omega) (by omega)) ?_
  refine sg_aload_n (pc := 767) (j := 0) dL_law_767 rfl rfl ?_
  refine sg_iload (pc := 768) dL_law_768 rfl ?_
  refine sg_iconst (pc := 770) (z := 2) dL_law_770 (by decide) ?_
  first | refine sg_iaddB (pc := 771) dL_law_771 (by omega) (by omega) ?_ | refine sg_iadd (pc := 771) dL_law_771 ?_
  refine sg_iald (pc := 772) dL_law_772 hI.2.2.2.2.2.2.2.2.2 rfl (by omega) (jk_x (by omega) (by omega)) ?_
  refine sg_aload_n (pc := 773) (j := 3) dL_law_773 rfl rfl ?_
  refine st_cS4 (pc := 774) (d' := d - 1) (mc' := 8) (ms' := 48) g dL_law_774 cb_L_send cw_L_send ml_L_230 ms_L_send (Nat.le_of_ble_eq_true rfl) (by first | exact jl_d0 hd rfl | omega) (by first | exact Nat.le_of_ble_eq_true rfl | omega) (by first | exact Nat.le_of_ble_eq_true rfl | omega) ?_
  refine s_L_send g nc (by omega) hI (fun v1 h1 I1 X1 => sg_K1 ?_)
  refine sg_istore (pc := 777) dL_law_777 (by decide) ?_
  refine sg_aload_n (pc := 779) (j := 2) dL_law_779 rfl rfl ?_
  refine sg_aload_n (pc := 780) (j := 0) dL_law_780 rfl rfl ?_
  refine sg_iload (pc := 781) dL_law_781 rfl ?_
  refine sg_iconst (pc := 783) (z := 1) dL_law_783 (by decide) ?_
  first | refine sg_iaddB (pc := 784) dL_law_784 (by omega) (by omega) ?_ | refine sg_iadd (pc := 784) dL_law_784 ?_
  refine sg_iald (pc := 785) dL_law_785 I1.2.2.2.2.2.2.2.2.2 rfl (by omega) (jk_x (by omega) (by omega)) ?_
  refine sg_aload_n (pc := 786) (j := 0) dL_law_786 rfl rfl ?_
  refine sg_iload (pc := 787) dL_law_787 rfl ?_
  refine sg_iconst (pc := 789) (z := 2) dL_law_789 (by decide) ?_
  first | refine sg_iaddB (pc := 790) dL_law_790 (by omega) (by omega) ?_ | refine sg_iadd (pc := 790) dL_law_790 ?_
  refine sg_iald (pc := 791) dL_law_791 I1.2.2.2.2.2.2.2.2.2 rfl (by omega) (jk_x (by omega) (by omega)) ?_
  refine st_as (fun H r => jk_tgR (B := B) r) ?_
  have m2 := jk_Im I1
  refine sg_cE2 (pc := 792) (d' := d - 1) (mc' := 4) (ms' := 82) 8 g dL_law_792 cb_X7_send ml_L_232 mn_X7_send rfl mv_X7_send (Nat.le_of_ble_eq_true rfl) (md_oc m2) (Nat.le_of_ble_eq_true rfl) (by first | exact jl_d0 hd rfl | omega) (by first | exact Nat.le_of_ble_eq_true rfl | omega) (by first | exact Nat.le_of_ble_eq_true rfl | omega) ?_
  refine s_X7_send g (by first | exact jl_d1 hd rfl | omega) m2 (fun v2 h2  y2 => sg_K1 ?_)
  refine st_as (fun H r => jk_unR I1.1 r) ?_
  have I2 := jk_IM I1 y2
  refine sg_istore (pc := 795) dL_law_795 (by decide) ?_
  refine sg_goto (pc := 797) (tgt := 2465) dL_law_797 (by decide) ?_
  refine sg_lsub (lv' := [(0, _), (1, _), (2, _), (3, _), (4, _)]) ⟨rfl, rfl, rfl, rfl, rfl, trivial⟩ ?_
  exact K _ _ _ I2 (by omega) (by omega)

set_option maxRecDepth 100000 in
set_option maxHeartbeats 1000000 in
theorem lw_c12 {w : sg_W} {Q : sg_O → sg_H → Prop} {h : sg_H} (g : sg_G w) (nc : jk_C w) (hJ : jz w) {d mc ms : Nat} (hd : 30 ≤ d) {B M O S j k n : Nat} {xs : List Int} (hI : jk_I w B M O S xs h) (hj : 6 * j + 6 ≤ xs.length) (hl : xs.length ≤ 3072) (hk : k + 1030 ≤ mc) (hn : n + (48 + 81) ≤ ms) (K : ∀ (h' : sg_H) (k' n' : Nat), jk_I w B M O S xs h' → k' ≤ k + 1030 → n' ≤ n + (48 + 81) → sg_R w mi_L_law d mc ms Q 2465 [(0, sg_r S), (1, sg_r B), (2, sg_r M), (3, sg_r O), (4, sg_i (6 * (j : Int)))] [] h' k' n') : sg_R w mi_L_law d mc ms Q 800 [(0, sg_r S), (1, sg_r B), (2, sg_r M), (3, sg_r O), (4, sg_i (6 * (j : Int)))] [] h k n := by
  refine sg_aload_n (pc := 800) (j := 1) dL_law_800 rfl rfl ?_
  refine sg_aload_n (pc := 801) (j := 0) dL_law_801 rfl rfl ?_
  refine sg_iload (pc := 802) dL_law_802 rfl ?_
  refine sg_iconst (pc := 804) (z := 1) dL_law_804 (by decide) ?_
  first | refine sg_iaddB (pc := 805) dL_law_805 (by omega) (by omega) ?_ | refine sg_iadd (pc := 805) dL_law_805 ?_
  refine sg_iald (pc := 806) dL_law_806 hI.2.2.2.2.2.2.2.2.2 rfl (by omega) (jk_x (by omega) (by omega)) ?_
  refine sg_aload_n (pc := 807) (j := 0) dL_law_807 rfl rfl ?_
  refine sg_iload (pc := 808) dL_law_808 rfl ?_
  refine sg_iconst (pc := 810) (z := 2) dL_law_810 (by decide) ?_
  first | refine sg_iaddB (pc := 811) dL_law_811 (by omega) (by omega) ?_ | refine sg_iadd (pc := 811) dL_law_811 ?_
  refine sg_iald (pc := 812) dL_law_812 hI.2.2.2.2.2.2.2.2.2 rfl (by omega) (jk_x (by omega) (by omega)) ?_
  refine sg_aload_n (pc := 813) (j := 3) dL_law_813 rfl rfl ?_
  refine st_cS4 (pc := 814) (d' := d - 1) (mc' := 8) (ms' := 48) g dL_law_814 cb_L_put cw_L_put ml_L_233 ms_L_put (Nat.le_of_ble_eq_true rfl) (by first | exact jl_d0 hd rfl | omega) (by first | exact Nat.le_of_ble_eq_true rfl | omega) (by first | exact Nat.le_of_ble_eq_true rfl | omega) ?_
  refine s_L_put g nc (by omega) hI (fun v1 h1 I1 X1 => sg_K1 ?_)
  refine sg_istore (pc := 817) dL_law_817 (by decide) ?_
  refine sg_aload_n (pc := 819) (j := 2) dL_law_819 rfl rfl ?_
  refine sg_aload_n (pc := 820) (j := 0) dL_law_820 rfl rfl ?_
  refine sg_iload (pc := 821) dL_law_821 rfl ?_
  refine sg_iconst (pc := 823) (z := 1) dL_law_823 (by decide) ?_
  first | refine sg_iaddB (pc := 824) dL_law_824 (by omega) (by omega) ?_ | refine sg_iadd (pc := 824) dL_law_824 ?_
  refine sg_iald (pc := 825) dL_law_825 I1.2.2.2.2.2.2.2.2.2 rfl (by omega) (jk_x (by omega) (by omega)) ?_
  refine sg_aload_n (pc := 826) (j := 0) dL_law_826 rfl rfl ?_
  refine sg_iload (pc := 827) dL_law_827 rfl ?_
  refine sg_iconst (pc := 829) (z := 2) dL_law_829 (by decide) ?_
  first | refine sg_iaddB (pc := 830) dL_law_830 (by omega) (by omega) ?_ | refine sg_iadd (pc := 830) dL_law_830 ?_
  refine sg_iald (pc := 831) dL_law_831 I1.2.2.2.2.2.2.2.2.2 rfl (by omega) (jk_x (by omega) (by omega)) ?_
  refine st_as (fun H r => jk_tgR (B := B) r) ?_
  have m2 := jk_Im I1
  refine sg_cE2 (pc := 832) (d' := d - 1) (mc' := 4) (ms' := 81) 8 g dL_law_832 cb_X7_put ml_L_235 mn_X7_put rfl mv_X7_put (Nat.le_of_ble_eq_true rfl) (md_oc m2) (Nat.le_of_ble_eq_true rfl) (by first | exact jl_d0 hd rfl | omega) (by first | exact Nat.le_of_ble_eq_true rfl | omega) (by first | exact Nat.le_of_ble_eq_true rfl | omega) ?_
  refine s_X7_put g (by first | exact jl_d1 hd rfl | omega) m2 (fun v2 h2  y2 => sg_K1 ?_)
  refine st_as (fun H r => jk_unR I1.1 r) ?_
  have I2 := jk_IM I1 y2
  refine sg_istore (pc := 835) dL_law_835 (by decide) ?_
  refine sg_goto (pc := 837) (tgt := 2465) dL_law_837 (by decide) ?_
  refine sg_lsub (lv' := [(0, _), (1, _), (2, _), (3, _), (4, _)]) ⟨rfl, rfl, rfl, rfl, rfl, trivial⟩ ?_
  exact K _ _ _ I2 (by omega) (by omega)

set_option maxRecDepth 100000 in
set_option maxHeartbeats 1000000 in
theorem lw_c13 {w : sg_W} {Q : sg_O → sg_H → Prop} {h : sg_H} (g : sg_G w) (nc : jk_C w) (hJ : jz w) {d mc ms : Nat} (hd : 30 ≤ d) {B M O S j k n : Nat} {xs : List Int} (hI : jk_I w B M O S xs h) (hj : 6 * j + 6 ≤ xs.length) (hl : xs.length ≤ 3072) (hk : k + 1030 ≤ mc) (hn : n + (48 + 56) ≤ ms) (K : ∀ (h' : sg_H) (k' n' : Nat), jk_I w B M O S xs h' → k' ≤ k + 1030 → n' ≤ n + (48 + 56) → sg_R w mi_L_law d mc ms Q 2465 [(0, sg_r S), (1, sg_r B), (2, sg_r M), (3, sg_r O), (4, sg_i (6 * (j : Int)))] [] h' k' n') : sg_R w mi_L_law d mc ms Q 840 [(0, sg_r S), (1, sg_r B), (2, sg_r M), (3, sg_r O), (4, sg_i (6 * (j : Int)))] [] h k n := by
  refine sg_aload_n (pc := 840) (j := 1) dL_law_840 rfl rfl ?_
  refine sg_aload_n (pc := 841) (j := 0) dL_law_841 rfl rfl ?_
  refine sg_iload (pc := 842) dL_law_842 rfl ?_
  refine sg_iconst (pc := 844) (z := 1) dL_law_844 (by decide) ?_
  first | refine sg_iaddB (pc := 845) dL_law_845 (by omega) (by omega) ?_ | refine sg_iadd (pc := 845) dL_law_845 ?_
  refine sg_iald (pc := 846) dL_law_846 hI.2.2.2.2.2.2.2.2.2 rfl (by omega) (jk_x (by omega) (by omega)) ?_
  refine sg_aload_n (pc := 847) (j := 0) dL_law_847 rfl rfl ?_
  refine sg_iload (pc := 848) dL_law_848 rfl ?_
  refine sg_iconst (pc := 850) (z := 2) dL_law_850 (by decide) ?_
  first | refine sg_iaddB (pc := 851) dL_law_851 (by omega) (by omega) ?_ | refine sg_iadd (pc := 851) dL_law_851 ?_
  refine sg_iald (pc := 852) dL_law_852 hI.2.2.2.2.2.2.2.2.2 rfl (by omega) (jk_x (by omega) (by omega)) ?_
  refine sg_aload_n (pc := 853) (j := 3) dL_law_853 rfl rfl ?_
  refine st_cS4 (pc := 854) (d' := d - 1) (mc' := 8) (ms' := 48) g dL_law_854 cb_L_cut cw_L_cut ml_L_236 ms_L_cut (Nat.le_of_ble_eq_true rfl) (by first | exact jl_d0 hd rfl | omega) (by first | exact Nat.le_of_ble_eq_true rfl | omega) (by first | exact Nat.le_of_ble_eq_true rfl | omega) ?_
  refine s_L_cut g nc (by omega) hI (fun v1 h1 I1 X1 => sg_K1 ?_)
  refine sg_istore (pc := 857) dL_law_857 (by decide) ?_
  refine sg_aload_n (pc := 859) (j := 2) dL_law_859 rfl rfl ?_
  refine sg_aload_n (pc := 860) (j := 0) dL_law_860 rfl rfl ?_
  refine sg_iload (pc := 861) dL_law_861 rfl ?_
  refine sg_iconst (pc := 863) (z := 1) dL_law_863 (by decide) ?_
  first | refine sg_iaddB (pc := 864) dL_law_864 (by omega) (by omega) ?_ | refine sg_iadd (pc := 864) dL_law_864 ?_
  refine sg_iald (pc := 865) dL_law_865 I1.2.2.2.2.2.2.2.2.2 rfl (by omega) (jk_x (by omega) (by omega)) ?_
  refine sg_aload_n (pc := 866) (j := 0) dL_law_866 rfl rfl ?_
  refine sg_iload (pc := 867) dL_law_867 rfl ?_
  refine sg_iconst (pc := 869) (z := 2) dL_law_869 (by decide) ?_
  first | refine sg_iaddB (pc := 870) dL_law_870 (by omega) (by omega) ?_ | refine sg_iadd (pc := 870) dL_law_870 ?_
  refine sg_iald (pc := 871) dL_law_871 I1.2.2.2.2.2.2.2.2.2 rfl (by omega) (jk_x (by omega) (by omega)) ?_
  refine st_as (fun H r => jk_tgR (B := B) r) ?_
  have m2 := jk_Im I1
  refine sg_cE2 (pc := 872) (d' := d - 1) (mc' := 3) (ms' := 56) 8 g dL_law_872 cb_X7_cut ml_L_238 mn_X7_cut rfl mv_X7_cut (Nat.le_of_ble_eq_true rfl) (md_oc m2) (Nat.le_of_ble_eq_true rfl) (by first | exact jl_d0 hd rfl | omega) (by first | exact Nat.le_of_ble_eq_true rfl | omega) (by first | exact Nat.le_of_ble_eq_true rfl | omega) ?_
  refine s_X7_cut g (by first | exact jl_d1 hd rfl | omega) m2 (fun v2 h2  y2 => sg_K1 ?_)
  refine st_as (fun H r => jk_unR I1.1 r) ?_
  have I2 := jk_IM I1 y2
  refine sg_istore (pc := 875) dL_law_875 (by decide) ?_
  refine sg_goto (pc := 877) (tgt := 2465) dL_law_877 (by decide) ?_
  refine sg_lsub (lv' := [(0, _), (1, _), (2, _), (3, _), (4, _)]) ⟨rfl, rfl, rfl, rfl, rfl, trivial⟩ ?_
  exact K _ _ _ I2 (by omega) (by omega)

set_option maxRecDepth 100000 in
set_option maxHeartbeats 1000000 in
theorem lw_c14 {w : sg_W} {Q : sg_O → sg_H → Prop} {h : sg_H} (g : sg_G w) (nc : jk_C w) (hJ : jz w) {d mc ms : Nat} (hd : 30 ≤ d) {B M O S j k n : Nat} {xs : List Int} (hI : jk_I w B M O S xs h) (hj : 6 * j + 6 ≤ xs.length) (hl : xs.length ≤ 3072) (hk : k + 1030 ≤ mc) (hn : n + (48 + 56) ≤ ms) (K : ∀ (h' : sg_H) (k' n' : Nat), jk_I w B M O S xs h' → k' ≤ k + 1030 → n' ≤ n + (48 + 56) → sg_R w mi_L_law d mc ms Q 2465 [(0, sg_r S), (1, sg_r B), (2, sg_r M), (3, sg_r O), (4, sg_i (6 * (j : Int)))] [] h' k' n') : sg_R w mi_L_law d mc ms Q 880 [(0, sg_r S), (1, sg_r B), (2, sg_r M), (3, sg_r O), (4, sg_i (6 * (j : Int)))] [] h k n := by
  refine sg_aload_n (pc := 880) (j := 1) dL_law_880 rfl rfl ?_
  refine sg_aload_n (pc := 881) (j := 0) dL_law_881 rfl rfl ?_
  refine sg_iload (pc := 882) dL_law_882 rfl ?_
  refine sg_iconst (pc := 884) (z := 1) dL_law_884 (by decide) ?_
  first | refine sg_iaddB (pc := 885) dL_law_885 (by omega) (by omega) ?_ | refine sg_iadd (pc := 885) dL_law_885 ?_
  refine sg_iald (pc := 886) dL_law_886 hI.2.2.2.2.2.2.2.2.2 rfl (by omega) (jk_x (by omega) (by omega)) ?_
  refine sg_aload_n (pc := 887) (j := 3) dL_law_887 rfl rfl ?_
  refine st_cS3 (pc := 888) (d' := d - 1) (mc' := 8) (ms' := 48) g dL_law_888 cb_L_flip cw_L_flip ml_L_239 ms_L_flip (Nat.le_of_ble_eq_true rfl) (by first | exact jl_d0 hd rfl | omega) (by first | exact Nat.le_of_ble_eq_true rfl | omega) (by first | exact Nat.le_of_ble_eq_true rfl | omega) ?_
  refine s_L_flip g nc (by omega) hI (fun v1 h1 I1 X1 => sg_K1 ?_)
  refine sg_istore (pc := 891) dL_law_891 (by decide) ?_
  refine sg_aload_n (pc := 893) (j := 2) dL_law_893 rfl rfl ?_
  refine sg_aload_n (pc := 894) (j := 0) dL_law_894 rfl rfl ?_
  refine sg_iload (pc := 895) dL_law_895 rfl ?_
  refine sg_iconst (pc := 897) (z := 1) dL_law_897 (by decide) ?_
  first | refine sg_iaddB (pc := 898) dL_law_898 (by omega) (by omega) ?_ | refine sg_iadd (pc := 898) dL_law_898 ?_
  refine sg_iald (pc := 899) dL_law_899 I1.2.2.2.2.2.2.2.2.2 rfl (by omega) (jk_x (by omega) (by omega)) ?_
  refine st_as (fun H r => jk_tgR (B := B) r) ?_
  have m2 := jk_Im I1
  refine sg_cE1 (pc := 900) (d' := d - 1) (mc' := 3) (ms' := 56) 8 g dL_law_900 cb_X7_flip ml_L_241 mn_X7_flip rfl mv_X7_flip (Nat.le_of_ble_eq_true rfl) (md_oc m2) (Nat.le_of_ble_eq_true rfl) (by first | exact jl_d0 hd rfl | omega) (by first | exact Nat.le_of_ble_eq_true rfl | omega) (by first | exact Nat.le_of_ble_eq_true rfl | omega) ?_
  refine s_X7_flip g (by first | exact jl_d1 hd rfl | omega) m2 (fun v2 h2  y2 => sg_K1 ?_)
  refine st_as (fun H r => jk_unR I1.1 r) ?_
  have I2 := jk_IM I1 y2
  refine sg_istore (pc := 903) dL_law_903 (by decide) ?_
  refine sg_goto (pc := 905) (tgt := 2465) dL_law_905 (by decide) ?_
  refine sg_lsub (lv' := [(0, _), (1, _), (2, _), (3, _), (4, _)]) ⟨rfl, rfl, rfl, rfl, rfl, trivial⟩ ?_
  exact K _ _ _ I2 (by omega) (by omega)

set_option maxRecDepth 100000 in
set_option maxHeartbeats 1000000 in
theorem lw_c15 {w : sg_W} {Q : sg_O → sg_H → Prop} {h : sg_H} (g : sg_G w) (nc : jk_C w) (hJ : jz w) {d mc ms : Nat} (hd : 30 ≤ d) {B M O S j k n : Nat} {xs : List Int} (hI : jk_I w B M O S xs h) (hj : 6 * j + 6 ≤ xs.length) (hl : xs.length ≤ 3072) (hk : k + 1030 ≤ mc) (hn : n + (48 + 2100) ≤ ms) (K : ∀ (h' : sg_H) (k' n' : Nat), jk_I w B M O S xs h' → k' ≤ k + 1030 → n' ≤ n + (48 + 2100) → sg_R w mi_L_law d mc ms Q 2465 [(0, sg_r S), (1, sg_r B), (2, sg_r M), (3, sg_r O), (4, sg_i (6 * (j : Int)))] [] h' k' n') : sg_R w mi_L_law d mc ms Q 908 [(0, sg_r S), (1, sg_r B), (2, sg_r M), (3, sg_r O), (4, sg_i (6 * (j : Int)))] [] h k n := by
  refine sg_aload_n (pc := 908) (j := 1) dL_law_908 rfl rfl ?_
  refine sg_aload_n (pc := 909) (j := 0) dL_law_909 rfl rfl ?_
  refine sg_iload (pc := 910) dL_law_910 rfl ?_
  refine sg_iconst (pc := 912) (z := 1) dL_law_912 (by decide) ?_
  first | refine sg_iaddB (pc := 913) dL_law_913 (by omega) (by omega) ?_ | refine sg_iadd (pc := 913) dL_law_913 ?_
  refine sg_iald (pc := 914) dL_law_914 hI.2.2.2.2.2.2.2.2.2 rfl (by omega) (jk_x (by omega) (by omega)) ?_
  refine sg_aload_n (pc := 915) (j := 3) dL_law_915 rfl rfl ?_
  refine st_cS3 (pc := 916) (d' := d - 1) (mc' := 8) (ms' := 48) g dL_law_916 cb_L_reverse cw_L_reverse ml_L_242 ms_L_reverse (Nat.le_of_ble_eq_true rfl) (by first | exact jl_d0 hd rfl | omega) (by first | exact Nat.le_of_ble_eq_true rfl | omega) (by first | exact Nat.le_of_ble_eq_true rfl | omega) ?_
  refine s_L_reverse g nc (by omega) hI (fun v1 h1 I1 X1 => sg_K1 ?_)
  refine sg_istore (pc := 919) dL_law_919 (by decide) ?_
  refine sg_aload_n (pc := 921) (j := 2) dL_law_921 rfl rfl ?_
  refine sg_aload_n (pc := 922) (j := 0) dL_law_922 rfl rfl ?_
  refine sg_iload (pc := 923) dL_law_923 rfl ?_
  refine sg_iconst (pc := 925) (z := 1) dL_law_925 (by decide) ?_
  first | refine sg_iaddB (pc := 926) dL_law_926 (by omega) (by omega) ?_ | refine sg_iadd (pc := 926) dL_law_926 ?_
  refine sg_iald (pc := 927) dL_law_927 I1.2.2.2.2.2.2.2.2.2 rfl (by omega) (jk_x (by omega) (by omega)) ?_
  refine st_as (fun H r => jk_tgR (B := B) r) ?_
  have m2 := jk_Im I1
  refine sg_cE1 (pc := 928) (d' := d - 1) (mc' := 210) (ms' := 2100) 8 g dL_law_928 cb_X7_reverse ml_L_244 mn_X7_reverse rfl mv_X7_reverse (Nat.le_of_ble_eq_true rfl) (md_oc m2) (Nat.le_of_ble_eq_true rfl) (by first | exact jl_d0 hd rfl | omega) (by first | exact Nat.le_of_ble_eq_true rfl | omega) (by first | exact Nat.le_of_ble_eq_true rfl | omega) ?_
  refine s_X7_reverse g (by first | exact jl_d1 hd rfl | omega) m2 (fun v2 h2  y2 => sg_K1 ?_)
  refine st_as (fun H r => jk_unR I1.1 r) ?_
  have I2 := jk_IM I1 y2
  refine sg_istore (pc := 931) dL_law_931 (by decide) ?_
  refine sg_goto (pc := 933) (tgt := 2465) dL_law_933 (by decide) ?_
  refine sg_lsub (lv' := [(0, _), (1, _), (2, _), (3, _), (4, _)]) ⟨rfl, rfl, rfl, rfl, rfl, trivial⟩ ?_
  exact K _ _ _ I2 (by omega) (by omega)

set_option maxRecDepth 100000 in
set_option maxHeartbeats 1000000 in
theorem lw_c16 {w : sg_W} {Q : sg_O → sg_H → Prop} {h : sg_H} (g : sg_G w) (nc : jk_C w) (hJ : jz w) {d mc ms : Nat} (hd : 30 ≤ d) {B M O S j k n : Nat} {xs : List Int} (hI : jk_I w B M O S xs h) (hj : 6 * j + 6 ≤ xs.length) (hl : xs.length ≤ 3072) (hk : k + 1030 ≤ mc) (hn : n + (48 + 0) ≤ ms) (K : ∀ (h' : sg_H) (k' n' : Nat), jk_I w B M O S xs h' → k' ≤ k + 1030 → n' ≤ n + (48 + 0) → sg_R w mi_L_law d mc ms Q 2465 [(0, sg_r S), (1, sg_r B), (2, sg_r M), (3, sg_r O), (4, sg_i (6 * (j : Int)))] [] h' k' n') : sg_R w mi_L_law d mc ms Q 936 [(0, sg_r S), (1, sg_r B), (2, sg_r M), (3, sg_r O), (4, sg_i (6 * (j : Int)))] [] h k n := by
  refine sg_aload_n (pc := 936) (j := 1) dL_law_936 rfl rfl ?_
  refine sg_aload_n (pc := 937) (j := 3) dL_law_937 rfl rfl ?_
  refine st_cS2 (pc := 938) (d' := d - 1) (mc' := 8) (ms' := 48) g dL_law_938 cb_L_undo cw_L_undo ml_L_245 ms_L_undo (Nat.le_of_ble_eq_true rfl) (by first | exact jl_d0 hd rfl | omega) (by first | exact Nat.le_of_ble_eq_true rfl | omega) (by first | exact Nat.le_of_ble_eq_true rfl | omega) ?_
  refine s_L_undo g nc (by omega) hI (fun v1 h1 I1 X1 => sg_K1 ?_)
  refine sg_istore (pc := 941) dL_law_941 (by decide) ?_
  refine sg_aload_n (pc := 943) (j := 2) dL_law_943 rfl rfl ?_
  refine st_as (fun H r => jk_tgR (B := B) r) ?_
  have m2 := jk_Im I1
  refine sg_cE0 (pc := 944) (d' := d - 1) (mc' := 0) (ms' := 0) 8 g dL_law_944 cb_X7_undo ml_L_248 mn_X7_undo rfl mv_X7_undo (Nat.le_of_ble_eq_true rfl) (md_oc m2) (Nat.le_of_ble_eq_true rfl) (by first | exact jl_d0 hd rfl | omega) (by first | exact Nat.le_of_ble_eq_true rfl | omega) (by first | exact Nat.le_of_ble_eq_true rfl | omega) ?_
  refine s_X7_undo g (by first | exact jl_d1 hd rfl | omega) m2 (fun v2 h2  y2 => sg_K1 ?_)
  refine st_as (fun H r => jk_unR I1.1 r) ?_
  have I2 := jk_IM I1 y2
  refine sg_istore (pc := 947) dL_law_947 (by decide) ?_
  refine sg_goto (pc := 949) (tgt := 2465) dL_law_949 (by decide) ?_
  refine sg_lsub (lv' := [(0, _), (1, _), (2, _), (3, _), (4, _)]) ⟨rfl, rfl, rfl, rfl, rfl, trivial⟩ ?_
  exact K _ _ _ I2 (by omega) (by omega)

set_option maxRecDepth 100000 in
set_option maxHeartbeats 1000000 in
theorem lw_c17 {w : sg_W} {Q : sg_O → sg_H → Prop} {h : sg_H} (g : sg_G w) (nc : jk_C w) (hJ : jz w) {d mc ms : Nat} (hd : 30 ≤ d) {B M O S j k n : Nat} {xs : List Int} (hI : jk_I w B M O S xs h) (hj : 6 * j + 6 ≤ xs.length) (hl : xs.length ≤ 3072) (hk : k + 1030 ≤ mc) (hn : n + (0 + 0) ≤ ms) (K : ∀ (h' : sg_H) (k' n' : Nat), jk_I w B M O S xs h' → k' ≤ k + 1030 → n' ≤ n + (0 + 0) → sg_R w mi_L_law d mc ms Q 2465 [(0, sg_r S), (1, sg_r B), (2, sg_r M), (3, sg_r O), (4, sg_i (6 * (j : Int)))] [] h' k' n') : sg_R w mi_L_law d mc ms Q 952 [(0, sg_r S), (1, sg_r B), (2, sg_r M), (3, sg_r O), (4, sg_i (6 * (j : Int)))] [] h k n := by
  refine sg_aload_n (pc := 952) (j := 1) dL_law_952 rfl rfl ?_
  refine sg_cE0 (pc := 953) (d' := d - 1) (mc' := 0) (ms' := 0) 6 g dL_law_953 cb_X5_knock ml_L_249 mn_X5_knock rfl mv_X5_knock (Nat.le_of_ble_eq_true rfl) (ck_oc hI.2.2.1) (Nat.le_of_ble_eq_true rfl) (by first | exact jl_d0 hd rfl | omega) (by first | exact Nat.le_of_ble_eq_true rfl | omega) (by first | exact Nat.le_of_ble_eq_true rfl | omega) ?_
  refine s_X5_knock g (by first | exact jl_d1 hd rfl | omega) hI.2.2.1 (fun v1 h1 y1 => sg_K1 ?_)
  have I1 := (jk_IY hI y1).1
  refine sg_pop (pc := 956) dL_law_956 rfl ?_
  refine sg_aload_n (pc := 957) (j := 2) dL_law_957 rfl rfl ?_
  refine st_as (fun H r => jk_tgR (B := B) r) ?_
  have m2 := jk_Im I1
  refine sg_cE0 (pc := 958) (d' := d - 1) (mc' := 0) (ms' := 0) 8 g dL_law_958 cb_X7_knock ml_L_252 mn_X7_knock rfl mv_X7_knock (Nat.le_of_ble_eq_true rfl) (md_oc m2) (Nat.le_of_ble_eq_true rfl) (by first | exact jl_d0 hd rfl | omega) (by first | exact Nat.le_of_ble_eq_true rfl | omega) (by first | exact Nat.le_of_ble_eq_true rfl | omega) ?_
  refine s_X7_knock g (by first | exact jl_d1 hd rfl | omega) m2 (fun v2 h2  y2 => sg_K1 ?_)
  refine st_as (fun H r => jk_unR I1.1 r) ?_
  have I2 := jk_IM I1 y2
  refine sg_pop (pc := 961) dL_law_961 rfl ?_
  refine sg_goto (pc := 962) (tgt := 2465) dL_law_962 (by decide) ?_
  refine sg_lsub (lv' := [(0, _), (1, _), (2, _), (3, _), (4, _)]) ⟨rfl, rfl, rfl, rfl, rfl, trivial⟩ ?_
  exact K _ _ _ I2 (by omega) (by omega)

set_option maxRecDepth 100000 in
set_option maxHeartbeats 1000000 in
theorem lw_c18 {w : sg_W} {Q : sg_O → sg_H → Prop} {h : sg_H} (g : sg_G w) (nc : jk_C w) (hJ : jz w) {d mc ms : Nat} (hd : 30 ≤ d) {B M O S j k n : Nat} {xs : List Int} (hI : jk_I w B M O S xs h) (hj : 6 * j + 6 ≤ xs.length) (hl : xs.length ≤ 3072) (hk : k + 1030 ≤ mc) (hn : n + (48 + 0) ≤ ms) (K : ∀ (h' : sg_H) (k' n' : Nat), jk_I w B M O S xs h' → k' ≤ k + 1030 → n' ≤ n + (48 + 0) → sg_R w mi_L_law d mc ms Q 2465 [(0, sg_r S), (1, sg_r B), (2, sg_r M), (3, sg_r O), (4, sg_i (6 * (j : Int)))] [] h' k' n') : sg_R w mi_L_law d mc ms Q 965 [(0, sg_r S), (1, sg_r B), (2, sg_r M), (3, sg_r O), (4, sg_i (6 * (j : Int)))] [] h k n := by
  refine sg_aload_n (pc := 965) (j := 1) dL_law_965 rfl rfl ?_
  refine sg_aload_n (pc := 966) (j := 0) dL_law_966 rfl rfl ?_
  refine sg_iload (pc := 967) dL_law_967 rfl ?_
  refine sg_iconst (pc := 969) (z := 1) dL_law_969 (by decide) ?_
  first | refine sg_iaddB (pc := 970) dL_law_970 (by omega) (by omega) ?_ | refine sg_iadd (pc := 970) dL_law_970 ?_
  refine sg_iald (pc := 971) dL_law_971 hI.2.2.2.2.2.2.2.2.2 rfl (by omega) (jk_x (by omega) (by omega)) ?_
  refine sg_aload_n (pc := 972) (j := 3) dL_law_972 rfl rfl ?_
  refine st_cS3 (pc := 973) (d' := d - 1) (mc' := 8) (ms' := 48) g dL_law_973 cb_L_isDigit cw_L_isDigit ml_L_253 ms_L_isDigit (Nat.le_of_ble_eq_true rfl) (by first | exact jl_d0 hd rfl | omega) (by first | exact Nat.le_of_ble_eq_true rfl | omega) (by first | exact Nat.le_of_ble_eq_true rfl | omega) ?_
  refine s_L_isDigit g nc (by omega) hI (fun v1 h1 I1 X1 k1 o1 => sg_K1 ?_)
  refine sg_istore (pc := 976) dL_law_976 (by decide) ?_
  refine sg_aload_n (pc := 978) (j := 2) dL_law_978 rfl rfl ?_
  refine sg_aload_n (pc := 979) (j := 0) dL_law_979 rfl rfl ?_
  refine sg_iload (pc := 980) dL_law_980 rfl ?_
  refine sg_iconst (pc := 982) (z := 1) dL_law_982 (by decide) ?_
  first | refine sg_iaddB (pc := 983) dL_law_983 (by omega) (by omega) ?_ | refine sg_iadd (pc := 983) dL_law_983 ?_
  refine sg_iald (pc := 984) dL_law_984 I1.2.2.2.2.2.2.2.2.2 rfl (by omega) (jk_x (by omega) (by omega)) ?_
  refine st_as (fun H r => jk_tgR (B := B) r) ?_
  have m2 := jk_Im I1
  refine sg_cE1 (pc := 985) (d' := d - 1) (mc' := 0) (ms' := 0) 8 g dL_law_985 cb_X7_isDigit ml_L_255 mn_X7_isDigit rfl mv_X7_isDigit (Nat.le_of_ble_eq_true rfl) (md_oc m2) (Nat.le_of_ble_eq_true rfl) (by first | exact jl_d0 hd rfl | omega) (by first | exact Nat.le_of_ble_eq_true rfl | omega) (by first | exact Nat.le_of_ble_eq_true rfl | omega) ?_
  refine s_X7_isDigit g (by first | exact jl_d1 hd rfl | omega) m2 (fun v2 h2 c2_0 c2_1 c2_2 y2 => sg_K1 ?_)
  refine st_as (fun H r => jk_unR I1.1 r) ?_
  have I2 := jk_IM I1 y2
  have eo := jk_oM I1 y2
  refine sg_istore (pc := 988) dL_law_988 (by decide) ?_
  refine sg_goto (pc := 990) (tgt := 2465) dL_law_990 (by decide) ?_
  refine sg_lsub (lv' := [(0, _), (1, _), (2, _), (3, _), (4, _)]) ⟨rfl, rfl, rfl, rfl, rfl, trivial⟩ ?_
  exact K _ _ _ I2 (by omega) (by omega)

set_option maxRecDepth 100000 in
set_option maxHeartbeats 1000000 in
theorem lw_c19 {w : sg_W} {Q : sg_O → sg_H → Prop} {h : sg_H} (g : sg_G w) (nc : jk_C w) (hJ : jz w) {d mc ms : Nat} (hd : 30 ≤ d) {B M O S j k n : Nat} {xs : List Int} (hI : jk_I w B M O S xs h) (hj : 6 * j + 6 ≤ xs.length) (hl : xs.length ≤ 3072) (hk : k + 1030 ≤ mc) (hn : n + (48 + 0) ≤ ms) (K : ∀ (h' : sg_H) (k' n' : Nat), jk_I w B M O S xs h' → k' ≤ k + 1030 → n' ≤ n + (48 + 0) → sg_R w mi_L_law d mc ms Q 2465 [(0, sg_r S), (1, sg_r B), (2, sg_r M), (3, sg_r O), (4, sg_i (6 * (j : Int)))] [] h' k' n') : sg_R w mi_L_law d mc ms Q 993 [(0, sg_r S), (1, sg_r B), (2, sg_r M), (3, sg_r O), (4, sg_i (6 * (j : Int)))] [] h k n := by
  refine sg_aload_n (pc := 993) (j := 1) dL_law_993 rfl rfl ?_
  refine sg_aload_n (pc := 994) (j := 0) dL_law_994 rfl rfl ?_
  refine sg_iload (pc := 995) dL_law_995 rfl ?_
  refine sg_iconst (pc := 997) (z := 1) dL_law_997 (by decide) ?_
  first | refine sg_iaddB (pc := 998) dL_law_998 (by omega) (by omega) ?_ | refine sg_iadd (pc := 998) dL_law_998 ?_
  refine sg_iald (pc := 999) dL_law_999 hI.2.2.2.2.2.2.2.2.2 rfl (by omega) (jk_x (by omega) (by omega)) ?_
  refine sg_aload_n (pc := 1000) (j := 3) dL_law_1000 rfl rfl ?_
  refine st_cS3 (pc := 1001) (d' := d - 1) (mc' := 8) (ms' := 48) g dL_law_1001 cb_L_isLetter cw_L_isLetter ml_L_256 ms_L_isLetter (Nat.le_of_ble_eq_true rfl) (by first | exact jl_d0 hd rfl | omega) (by first | exact Nat.le_of_ble_eq_true rfl | omega) (by first | exact Nat.le_of_ble_eq_true rfl | omega) ?_
  refine s_L_isLetter g nc (by omega) hI (fun v1 h1 I1 X1 k1 o1 => sg_K1 ?_)
  refine sg_istore (pc := 1004) dL_law_1004 (by decide) ?_
  refine sg_aload_n (pc := 1006) (j := 2) dL_law_1006 rfl rfl ?_
  refine sg_aload_n (pc := 1007) (j := 0) dL_law_1007 rfl rfl ?_
  refine sg_iload (pc := 1008) dL_law_1008 rfl ?_
  refine sg_iconst (pc := 1010) (z := 1) dL_law_1010 (by decide) ?_
  first | refine sg_iaddB (pc := 1011) dL_law_1011 (by omega) (by omega) ?_ | refine sg_iadd (pc := 1011) dL_law_1011 ?_
  refine sg_iald (pc := 1012) dL_law_1012 I1.2.2.2.2.2.2.2.2.2 rfl (by omega) (jk_x (by omega) (by omega)) ?_
  refine st_as (fun H r => jk_tgR (B := B) r) ?_
  have m2 := jk_Im I1
  refine sg_cE1 (pc := 1013) (d' := d - 1) (mc' := 0) (ms' := 0) 8 g dL_law_1013 cb_X7_isLetter ml_L_258 mn_X7_isLetter rfl mv_X7_isLetter (Nat.le_of_ble_eq_true rfl) (md_oc m2) (Nat.le_of_ble_eq_true rfl) (by first | exact jl_d0 hd rfl | omega) (by first | exact Nat.le_of_ble_eq_true rfl | omega) (by first | exact Nat.le_of_ble_eq_true rfl | omega) ?_
  refine s_X7_isLetter g (by first | exact jl_d1 hd rfl | omega) m2 (fun v2 h2 c2_0 c2_1 c2_2 y2 => sg_K1 ?_)
  refine st_as (fun H r => jk_unR I1.1 r) ?_
  have I2 := jk_IM I1 y2
  have eo := jk_oM I1 y2
  refine sg_istore (pc := 1016) dL_law_1016 (by decide) ?_
  refine sg_goto (pc := 1018) (tgt := 2465) dL_law_1018 (by decide) ?_
  refine sg_lsub (lv' := [(0, _), (1, _), (2, _), (3, _), (4, _)]) ⟨rfl, rfl, rfl, rfl, rfl, trivial⟩ ?_
  exact K _ _ _ I2 (by omega) (by omega)

set_option maxRecDepth 100000 in
set_option maxHeartbeats 1000000 in
theorem lw_c20 {w : sg_W} {Q : sg_O → sg_H → Prop} {h : sg_H} (g : sg_G w) (nc : jk_C w) (hJ : jz w) {d mc ms : Nat} (hd : 30 ≤ d) {B M O S j k n : Nat} {xs : List Int} (hI : jk_I w B M O S xs h) (hj : 6 * j + 6 ≤ xs.length) (hl : xs.length ≤ 3072) (hk : k + 1030 ≤ mc) (hn : n + (48 + 0) ≤ ms) (K : ∀ (h' : sg_H) (k' n' : Nat), jk_I w B M O S xs h' → k' ≤ k + 1030 → n' ≤ n + (48 + 0) → sg_R w mi_L_law d mc ms Q 2465 [(0, sg_r S), (1, sg_r B), (2, sg_r M), (3, sg_r O), (4, sg_i (6 * (j : Int)))] [] h' k' n') : sg_R w mi_L_law d mc ms Q 1021 [(0, sg_r S), (1, sg_r B), (2, sg_r M), (3, sg_r O), (4, sg_i (6 * (j : Int)))] [] h k n := by
  refine sg_aload_n (pc := 1021) (j := 1) dL_law_1021 rfl rfl ?_
  refine sg_aload_n (pc := 1022) (j := 0) dL_law_1022 rfl rfl ?_
  refine sg_iload (pc := 1023) dL_law_1023 rfl ?_
  refine sg_iconst (pc := 1025) (z := 1) dL_law_1025 (by decide) ?_
  first | refine sg_iaddB (pc := 1026) dL_law_1026 (by omega) (by omega) ?_ | refine sg_iadd (pc := 1026) dL_law_1026 ?_
  refine sg_iald (pc := 1027) dL_law_1027 hI.2.2.2.2.2.2.2.2.2 rfl (by omega) (jk_x (by omega) (by omega)) ?_
  refine sg_aload_n (pc := 1028) (j := 3) dL_law_1028 rfl rfl ?_
  refine st_cS3 (pc := 1029) (d' := d - 1) (mc' := 8) (ms' := 48) g dL_law_1029 cb_L_isLetterOrDigit cw_L_isLetterOrDigit ml_L_259 ms_L_isLetterOrDigit (Nat.le_of_ble_eq_true rfl) (by first | exact jl_d0 hd rfl | omega) (by first | exact Nat.le_of_ble_eq_true rfl | omega) (by first | exact Nat.le_of_ble_eq_true rfl | omega) ?_
  refine s_L_isLetterOrDigit g nc (by omega) hI (fun v1 h1 I1 X1 k1 o1 => sg_K1 ?_)
  refine sg_istore (pc := 1032) dL_law_1032 (by decide) ?_
  refine sg_aload_n (pc := 1034) (j := 2) dL_law_1034 rfl rfl ?_
  refine sg_aload_n (pc := 1035) (j := 0) dL_law_1035 rfl rfl ?_
  refine sg_iload (pc := 1036) dL_law_1036 rfl ?_
  refine sg_iconst (pc := 1038) (z := 1) dL_law_1038 (by decide) ?_
  first | refine sg_iaddB (pc := 1039) dL_law_1039 (by omega) (by omega) ?_ | refine sg_iadd (pc := 1039) dL_law_1039 ?_
  refine sg_iald (pc := 1040) dL_law_1040 I1.2.2.2.2.2.2.2.2.2 rfl (by omega) (jk_x (by omega) (by omega)) ?_
  refine st_as (fun H r => jk_tgR (B := B) r) ?_
  have m2 := jk_Im I1
  refine sg_cE1 (pc := 1041) (d' := d - 1) (mc' := 0) (ms' := 0) 8 g dL_law_1041 cb_X7_isLetterOrDigit ml_L_261 mn_X7_isLetterOrDigit rfl mv_X7_isLetterOrDigit (Nat.le_of_ble_eq_true rfl) (md_oc m2) (Nat.le_of_ble_eq_true rfl) (by first | exact jl_d0 hd rfl | omega) (by first | exact Nat.le_of_ble_eq_true rfl | omega) (by first | exact Nat.le_of_ble_eq_true rfl | omega) ?_
  refine s_X7_isLetterOrDigit g (by first | exact jl_d1 hd rfl | omega) m2 (fun v2 h2 c2_0 c2_1 c2_2 y2 => sg_K1 ?_)
  refine st_as (fun H r => jk_unR I1.1 r) ?_
  have I2 := jk_IM I1 y2
  have eo := jk_oM I1 y2
  refine sg_istore (pc := 1044) dL_law_1044 (by decide) ?_
  refine sg_goto (pc := 1046) (tgt := 2465) dL_law_1046 (by decide) ?_
  refine sg_lsub (lv' := [(0, _), (1, _), (2, _), (3, _), (4, _)]) ⟨rfl, rfl, rfl, rfl, rfl, trivial⟩ ?_
  exact K _ _ _ I2 (by omega) (by omega)

set_option maxRecDepth 100000 in
set_option maxHeartbeats 1000000 in
theorem lw_c21 {w : sg_W} {Q : sg_O → sg_H → Prop} {h : sg_H} (g : sg_G w) (nc : jk_C w) (hJ : jz w) {d mc ms : Nat} (hd : 30 ≤ d) {B M O S j k n : Nat} {xs : List Int} (hI : jk_I w B M O S xs h) (hj : 6 * j + 6 ≤ xs.length) (hl : xs.length ≤ 3072) (hk : k + 1030 ≤ mc) (hn : n + (48 + 0) ≤ ms) (K : ∀ (h' : sg_H) (k' n' : Nat), jk_I w B M O S xs h' → k' ≤ k + 1030 → n' ≤ n + (48 + 0) → sg_R w mi_L_law d mc ms Q 2465 [(0, sg_r S), (1, sg_r B), (2, sg_r M), (3, sg_r O), (4, sg_i (6 * (j : Int)))] [] h' k' n') : sg_R w mi_L_law d mc ms Q 1049 [(0, sg_r S), (1, sg_r B), (2, sg_r M), (3, sg_r O), (4, sg_i (6 * (j : Int)))] [] h k n := by
  refine sg_aload_n (pc := 1049) (j := 1) dL_law_1049 rfl rfl ?_
  refine sg_aload_n (pc := 1050) (j := 0) dL_law_1050 rfl rfl ?_
  refine sg_iload (pc := 1051) dL_law_1051 rfl ?_
  refine sg_iconst (pc := 1053) (z := 1) dL_law_1053 (by decide) ?_
  first | refine sg_iaddB (pc := 1054) dL_law_1054 (by omega) (by omega) ?_ | refine sg_iadd (pc := 1054) dL_law_1054 ?_
  refine sg_iald (pc := 1055) dL_law_1055 hI.2.2.2.2.2.2.2.2.2 rfl (by omega) (jk_x (by omega) (by omega)) ?_
  refine sg_aload_n (pc := 1056) (j := 3) dL_law_1056 rfl rfl ?_
  refine st_cS3 (pc := 1057) (d' := d - 1) (mc' := 8) (ms' := 48) g dL_law_1057 cb_L_isWhite cw_L_isWhite ml_L_262 ms_L_isWhite (Nat.le_of_ble_eq_true rfl) (by first | exact jl_d0 hd rfl | omega) (by first | exact Nat.le_of_ble_eq_true rfl | omega) (by first | exact Nat.le_of_ble_eq_true rfl | omega) ?_
  refine s_L_isWhite g nc (by omega) hI (fun v1 h1 I1 X1 k1 o1 => sg_K1 ?_)
  refine sg_istore (pc := 1060) dL_law_1060 (by decide) ?_
  refine sg_aload_n (pc := 1062) (j := 2) dL_law_1062 rfl rfl ?_
  refine sg_aload_n (pc := 1063) (j := 0) dL_law_1063 rfl rfl ?_
  refine sg_iload (pc := 1064) dL_law_1064 rfl ?_
  refine sg_iconst (pc := 1066) (z := 1) dL_law_1066 (by decide) ?_
  first | refine sg_iaddB (pc := 1067) dL_law_1067 (by omega) (by omega) ?_ | refine sg_iadd (pc := 1067) dL_law_1067 ?_
  refine sg_iald (pc := 1068) dL_law_1068 I1.2.2.2.2.2.2.2.2.2 rfl (by omega) (jk_x (by omega) (by omega)) ?_
  refine st_as (fun H r => jk_tgR (B := B) r) ?_
  have m2 := jk_Im I1
  refine sg_cE1 (pc := 1069) (d' := d - 1) (mc' := 0) (ms' := 0) 8 g dL_law_1069 cb_X7_isWhite ml_L_264 mn_X7_isWhite rfl mv_X7_isWhite (Nat.le_of_ble_eq_true rfl) (md_oc m2) (Nat.le_of_ble_eq_true rfl) (by first | exact jl_d0 hd rfl | omega) (by first | exact Nat.le_of_ble_eq_true rfl | omega) (by first | exact Nat.le_of_ble_eq_true rfl | omega) ?_
  refine s_X7_isWhite g (by first | exact jl_d1 hd rfl | omega) m2 (fun v2 h2 c2_0 c2_1 c2_2 y2 => sg_K1 ?_)
  refine st_as (fun H r => jk_unR I1.1 r) ?_
  have I2 := jk_IM I1 y2
  have eo := jk_oM I1 y2
  refine sg_istore (pc := 1072) dL_law_1072 (by decide) ?_
  refine sg_goto (pc := 1074) (tgt := 2465) dL_law_1074 (by decide) ?_
  refine sg_lsub (lv' := [(0, _), (1, _), (2, _), (3, _), (4, _)]) ⟨rfl, rfl, rfl, rfl, rfl, trivial⟩ ?_
  exact K _ _ _ I2 (by omega) (by omega)

set_option maxRecDepth 100000 in
set_option maxHeartbeats 1000000 in
theorem lw_c22 {w : sg_W} {Q : sg_O → sg_H → Prop} {h : sg_H} (g : sg_G w) (nc : jk_C w) (hJ : jz w) {d mc ms : Nat} (hd : 30 ≤ d) {B M O S j k n : Nat} {xs : List Int} (hI : jk_I w B M O S xs h) (hj : 6 * j + 6 ≤ xs.length) (hl : xs.length ≤ 3072) (hk : k + 1030 ≤ mc) (hn : n + (48 + 0) ≤ ms) (K : ∀ (h' : sg_H) (k' n' : Nat), jk_I w B M O S xs h' → k' ≤ k + 1030 → n' ≤ n + (48 + 0) → sg_R w mi_L_law d mc ms Q 2465 [(0, sg_r S), (1, sg_r B), (2, sg_r M), (3, sg_r O), (4, sg_i (6 * (j : Int)))] [] h' k' n') : sg_R w mi_L_law d mc ms Q 1077 [(0, sg_r S), (1, sg_r B), (2, sg_r M), (3, sg_r O), (4, sg_i (6 * (j : Int)))] [] h k n := by
  refine sg_aload_n (pc := 1077) (j := 1) dL_law_1077 rfl rfl ?_
  refine sg_aload_n (pc := 1078) (j := 0) dL_law_1078 rfl rfl ?_
  refine sg_iload (pc := 1079) dL_law_1079 rfl ?_
  refine sg_iconst (pc := 1081) (z := 1) dL_law_1081 (by decide) ?_
  first | refine sg_iaddB (pc := 1082) dL_law_1082 (by omega) (by omega) ?_ | refine sg_iadd (pc := 1082) dL_law_1082 ?_
  refine sg_iald (pc := 1083) dL_law_1083 hI.2.2.2.2.2.2.2.2.2 rfl (by omega) (jk_x (by omega) (by omega)) ?_
  refine sg_aload_n (pc := 1084) (j := 3) dL_law_1084 rfl rfl ?_
  refine st_cS3 (pc := 1085) (d' := d - 1) (mc' := 8) (ms' := 48) g dL_law_1085 cb_L_isGreat cw_L_isGreat ml_L_265 ms_L_isGreat (Nat.le_of_ble_eq_true rfl) (by first | exact jl_d0 hd rfl | omega) (by first | exact Nat.le_of_ble_eq_true rfl | omega) (by first | exact Nat.le_of_ble_eq_true rfl | omega) ?_
  refine s_L_isGreat g nc (by omega) hI (fun v1 h1 I1 X1 k1 o1 => sg_K1 ?_)
  refine sg_istore (pc := 1088) dL_law_1088 (by decide) ?_
  refine sg_aload_n (pc := 1090) (j := 2) dL_law_1090 rfl rfl ?_
  refine sg_aload_n (pc := 1091) (j := 0) dL_law_1091 rfl rfl ?_
  refine sg_iload (pc := 1092) dL_law_1092 rfl ?_
  refine sg_iconst (pc := 1094) (z := 1) dL_law_1094 (by decide) ?_
  first | refine sg_iaddB (pc := 1095) dL_law_1095 (by omega) (by omega) ?_ | refine sg_iadd (pc := 1095) dL_law_1095 ?_
  refine sg_iald (pc := 1096) dL_law_1096 I1.2.2.2.2.2.2.2.2.2 rfl (by omega) (jk_x (by omega) (by omega)) ?_
  refine st_as (fun H r => jk_tgR (B := B) r) ?_
  have m2 := jk_Im I1
  refine sg_cE1 (pc := 1097) (d' := d - 1) (mc' := 0) (ms' := 0) 8 g dL_law_1097 cb_X7_isGreat ml_L_267 mn_X7_isGreat rfl mv_X7_isGreat (Nat.le_of_ble_eq_true rfl) (md_oc m2) (Nat.le_of_ble_eq_true rfl) (by first | exact jl_d0 hd rfl | omega) (by first | exact Nat.le_of_ble_eq_true rfl | omega) (by first | exact Nat.le_of_ble_eq_true rfl | omega) ?_
  refine s_X7_isGreat g (by first | exact jl_d1 hd rfl | omega) m2 (fun v2 h2 c2_0 c2_1 c2_2 y2 => sg_K1 ?_)
  refine st_as (fun H r => jk_unR I1.1 r) ?_
  have I2 := jk_IM I1 y2
  have eo := jk_oM I1 y2
  refine sg_istore (pc := 1100) dL_law_1100 (by decide) ?_
  refine sg_goto (pc := 1102) (tgt := 2465) dL_law_1102 (by decide) ?_
  refine sg_lsub (lv' := [(0, _), (1, _), (2, _), (3, _), (4, _)]) ⟨rfl, rfl, rfl, rfl, rfl, trivial⟩ ?_
  exact K _ _ _ I2 (by omega) (by omega)

set_option maxRecDepth 100000 in
set_option maxHeartbeats 1000000 in
theorem lw_c23 {w : sg_W} {Q : sg_O → sg_H → Prop} {h : sg_H} (g : sg_G w) (nc : jk_C w) (hJ : jz w) {d mc ms : Nat} (hd : 30 ≤ d) {B M O S j k n : Nat} {xs : List Int} (hI : jk_I w B M O S xs h) (hj : 6 * j + 6 ≤ xs.length) (hl : xs.length ≤ 3072) (hk : k + 1030 ≤ mc) (hn : n + (48 + 0) ≤ ms) (K : ∀ (h' : sg_H) (k' n' : Nat), jk_I w B M O S xs h' → k' ≤ k + 1030 → n' ≤ n + (48 + 0) → sg_R w mi_L_law d mc ms Q 2465 [(0, sg_r S), (1, sg_r B), (2, sg_r M), (3, sg_r O), (4, sg_i (6 * (j : Int)))] [] h' k' n') : sg_R w mi_L_law d mc ms Q 1105 [(0, sg_r S), (1, sg_r B), (2, sg_r M), (3, sg_r O), (4, sg_i (6 * (j : Int)))] [] h k n := by
  refine sg_aload_n (pc := 1105) (j := 1) dL_law_1105 rfl rfl ?_
  refine sg_aload_n (pc := 1106) (j := 0) dL_law_1106 rfl rfl ?_
  refine sg_iload (pc := 1107) dL_law_1107 rfl ?_
  refine sg_iconst (pc := 1109) (z := 1) dL_law_1109 (by decide) ?_
  first | refine sg_iaddB (pc := 1110) dL_law_1110 (by omega) (by omega) ?_ | refine sg_iadd (pc := 1110) dL_law_1110 ?_
  refine sg_iald (pc := 1111) dL_law_1111 hI.2.2.2.2.2.2.2.2.2 rfl (by omega) (jk_x (by omega) (by omega)) ?_
  refine sg_aload_n (pc := 1112) (j := 3) dL_law_1112 rfl rfl ?_
  refine st_cS3 (pc := 1113) (d' := d - 1) (mc' := 8) (ms' := 48) g dL_law_1113 cb_L_kinds cw_L_kinds ml_L_268 ms_L_kinds (Nat.le_of_ble_eq_true rfl) (by first | exact jl_d0 hd rfl | omega) (by first | exact Nat.le_of_ble_eq_true rfl | omega) (by first | exact Nat.le_of_ble_eq_true rfl | omega) ?_
  refine s_L_kinds g nc (by omega) hI (fun v1 h1 I1 X1 k1 o1 => sg_K1 ?_)
  refine sg_istore (pc := 1116) dL_law_1116 (by decide) ?_
  refine sg_aload_n (pc := 1118) (j := 2) dL_law_1118 rfl rfl ?_
  refine sg_aload_n (pc := 1119) (j := 0) dL_law_1119 rfl rfl ?_
  refine sg_iload (pc := 1120) dL_law_1120 rfl ?_
  refine sg_iconst (pc := 1122) (z := 1) dL_law_1122 (by decide) ?_
  first | refine sg_iaddB (pc := 1123) dL_law_1123 (by omega) (by omega) ?_ | refine sg_iadd (pc := 1123) dL_law_1123 ?_
  refine sg_iald (pc := 1124) dL_law_1124 I1.2.2.2.2.2.2.2.2.2 rfl (by omega) (jk_x (by omega) (by omega)) ?_
  refine st_as (fun H r => jk_tgR (B := B) r) ?_
  have m2 := jk_Im I1
  refine sg_cE1 (pc := 1125) (d' := d - 1) (mc' := 0) (ms' := 0) 8 g dL_law_1125 cb_X7_kinds ml_L_270 mn_X7_kinds rfl mv_X7_kinds (Nat.le_of_ble_eq_true rfl) (md_oc m2) (Nat.le_of_ble_eq_true rfl) (by first | exact jl_d0 hd rfl | omega) (by first | exact Nat.le_of_ble_eq_true rfl | omega) (by first | exact Nat.le_of_ble_eq_true rfl | omega) ?_
  refine s_X7_kinds g (by first | exact jl_d1 hd rfl | omega) m2 (fun v2 h2 c2_0 c2_1 y2 => sg_K1 ?_)
  refine st_as (fun H r => jk_unR I1.1 r) ?_
  have I2 := jk_IM I1 y2
  have eo := jk_oM I1 y2
  refine sg_istore (pc := 1128) dL_law_1128 (by decide) ?_
  refine sg_goto (pc := 1130) (tgt := 2465) dL_law_1130 (by decide) ?_
  refine sg_lsub (lv' := [(0, _), (1, _), (2, _), (3, _), (4, _)]) ⟨rfl, rfl, rfl, rfl, rfl, trivial⟩ ?_
  exact K _ _ _ I2 (by omega) (by omega)

set_option maxRecDepth 100000 in
set_option maxHeartbeats 1000000 in
theorem lw_c24 {w : sg_W} {Q : sg_O → sg_H → Prop} {h : sg_H} (g : sg_G w) (nc : jk_C w) (hJ : jz w) {d mc ms : Nat} (hd : 30 ≤ d) {B M O S j k n : Nat} {xs : List Int} (hI : jk_I w B M O S xs h) (hj : 6 * j + 6 ≤ xs.length) (hl : xs.length ≤ 3072) (hk : k + 1030 ≤ mc) (hn : n + (48 + 0) ≤ ms) (K : ∀ (h' : sg_H) (k' n' : Nat), jk_I w B M O S xs h' → k' ≤ k + 1030 → n' ≤ n + (48 + 0) → sg_R w mi_L_law d mc ms Q 2465 [(0, sg_r S), (1, sg_r B), (2, sg_r M), (3, sg_r O), (4, sg_i (6 * (j : Int)))] [] h' k' n') : sg_R w mi_L_law d mc ms Q 1133 [(0, sg_r S), (1, sg_r B), (2, sg_r M), (3, sg_r O), (4, sg_i (6 * (j : Int)))] [] h k n := by
  refine sg_aload_n (pc := 1133) (j := 1) dL_law_1133 rfl rfl ?_
  refine sg_aload_n (pc := 1134) (j := 0) dL_law_1134 rfl rfl ?_
  refine sg_iload (pc := 1135) dL_law_1135 rfl ?_
  refine sg_iconst (pc := 1137) (z := 1) dL_law_1137 (by decide) ?_
  first | refine sg_iaddB (pc := 1138) dL_law_1138 (by omega) (by omega) ?_ | refine sg_iadd (pc := 1138) dL_law_1138 ?_
  refine sg_iald (pc := 1139) dL_law_1139 hI.2.2.2.2.2.2.2.2.2 rfl (by omega) (jk_x (by omega) (by omega)) ?_
  refine sg_aload_n (pc := 1140) (j := 0) dL_law_1140 rfl rfl ?_
  refine sg_iload (pc := 1141) dL_law_1141 rfl ?_
  refine sg_iconst (pc := 1143) (z := 2) dL_law_1143 (by decide) ?_
  first | refine sg_iaddB (pc := 1144) dL_law_1144 (by omega) (by omega) ?_ | refine sg_iadd (pc := 1144) dL_law_1144 ?_
  refine sg_iald (pc := 1145) dL_law_1145 hI.2.2.2.2.2.2.2.2.2 rfl (by omega) (jk_x (by omega) (by omega)) ?_
  refine sg_if_eq (pc := 1146) (tgt := 1153) dL_law_1146 (by decide) (fun c1146 => ?_) (fun c1146 => ?_)
  · refine sg_iconst (pc := 1153) (z := 0) dL_law_1153 (by decide) ?_
    refine sg_aload_n (pc := 1154) (j := 3) dL_law_1154 rfl rfl ?_
    refine st_cS4 (pc := 1155) (d' := d - 1) (mc' := 8) (ms' := 48) g dL_law_1155 cb_L_upper cw_L_upper ml_L_271 ms_L_upper (Nat.le_of_ble_eq_true rfl) (by first | exact jl_d0 hd rfl | omega) (by first | exact Nat.le_of_ble_eq_true rfl | omega) (by first | exact Nat.le_of_ble_eq_true rfl | omega) ?_
    refine s_L_upper g nc (by omega) hI (fun v1 h1 I1 X1 k1 o1 => sg_K1 ?_)
    refine sg_istore (pc := 1158) dL_law_1158 (by decide) ?_
    refine sg_aload_n (pc := 1160) (j := 2) dL_law_1160 rfl rfl ?_
    refine sg_aload_n (pc := 1161) (j := 0) dL_law_1161 rfl rfl ?_
    refine sg_iload (pc := 1162) dL_law_1162 rfl ?_
    refine sg_iconst (pc := 1164) (z := 1) dL_law_1164 (by decide) ?_
    first | refine sg_iaddB (pc := 1165) dL_law_1165 (by omega) (by omega) ?_ | refine sg_iadd (pc := 1165) dL_law_1165 ?_
    refine sg_iald (pc := 1166) dL_law_1166 I1.2.2.2.2.2.2.2.2.2 rfl (by omega) (jk_x (by omega) (by omega)) ?_
    refine sg_aload_n (pc := 1167) (j := 0) dL_law_1167 rfl rfl ?_
    refine sg_iload (pc := 1168) dL_law_1168 rfl ?_
    refine sg_iconst (pc := 1170) (z := 2) dL_law_1170 (by decide) ?_
    first | refine sg_iaddB (pc := 1171) dL_law_1171 (by omega) (by omega) ?_ | refine sg_iadd (pc := 1171) dL_law_1171 ?_
    refine sg_iald (pc := 1172) dL_law_1172 I1.2.2.2.2.2.2.2.2.2 rfl (by omega) (jk_x (by omega) (by omega)) ?_
    refine sg_if_eq (pc := 1173) (tgt := 1180) dL_law_1173 (by decide) (fun c1173 => ?_) (fun c1173 => ?_)
    · refine sg_iconst (pc := 1180) (z := 0) dL_law_1180 (by decide) ?_
      refine st_as (fun H r => jk_tgR (B := B) r) ?_
      have m2 := jk_Im I1
      refine sg_cE2 (pc := 1181) (d' := d - 1) (mc' := 0) (ms' := 0) 8 g dL_law_1181 cb_X7_upper ml_L_274 mn_X7_upper rfl mv_X7_upper (Nat.le_of_ble_eq_true rfl) (md_oc m2) (Nat.le_of_ble_eq_true rfl) (by first | exact jl_d0 hd rfl | omega) (by first | exact Nat.le_of_ble_eq_true rfl | omega) (by first | exact Nat.le_of_ble_eq_true rfl | omega) ?_
      refine s_X7_upper g (by first | exact jl_d1 hd rfl | omega) m2 (fun v2 h2 c2_0 c2_1 y2 => sg_K1 ?_)
      refine st_as (fun H r => jk_unR I1.1 r) ?_
      have I2 := jk_IM I1 y2
      have eo := jk_oM I1 y2
      refine sg_istore (pc := 1184) dL_law_1184 (by decide) ?_
      refine sg_goto (pc := 1186) (tgt := 2465) dL_law_1186 (by decide) ?_
      refine sg_lsub (lv' := [(0, _), (1, _), (2, _), (3, _), (4, _)]) ⟨rfl, rfl, rfl, rfl, rfl, trivial⟩ ?_
      exact K _ _ _ I2 (by omega) (by omega)
    · refine sg_iconst (pc := 1176) (z := 1) dL_law_1176 (by decide) ?_
      refine sg_goto (pc := 1177) (tgt := 1181) dL_law_1177 (by decide) ?_
      refine st_as (fun H r => jk_tgR (B := B) r) ?_
      have m3 := jk_Im I1
      refine sg_cE2 (pc := 1181) (d' := d - 1) (mc' := 0) (ms' := 0) 8 g dL_law_1181 cb_X7_upper ml_L_274 mn_X7_upper rfl mv_X7_upper (Nat.le_of_ble_eq_true rfl) (md_oc m3) (Nat.le_of_ble_eq_true rfl) (by first | exact jl_d0 hd rfl | omega) (by first | exact Nat.le_of_ble_eq_true rfl | omega) (by first | exact Nat.le_of_ble_eq_true rfl | omega) ?_
      refine s_X7_upper g (by first | exact jl_d1 hd rfl | omega) m3 (fun v3 h3 c3_0 c3_1 y3 => sg_K1 ?_)
      refine st_as (fun H r => jk_unR I1.1 r) ?_
      have I3 := jk_IM I1 y3
      have eo := jk_oM I1 y3
      refine sg_istore (pc := 1184) dL_law_1184 (by decide) ?_
      refine sg_goto (pc := 1186) (tgt := 2465) dL_law_1186 (by decide) ?_
      refine sg_lsub (lv' := [(0, _), (1, _), (2, _), (3, _), (4, _)]) ⟨rfl, rfl, rfl, rfl, rfl, trivial⟩ ?_
      exact K _ _ _ I3 (by omega) (by omega)
  · refine sg_iconst (pc := 1149) (z := 1) dL_law_1149 (by decide) ?_
    refine sg_goto (pc := 1150) (tgt := 1154) dL_law_1150 (by decide) ?_
    refine sg_aload_n (pc := 1154) (j := 3) dL_law_1154 rfl rfl ?_
    refine st_cS4 (pc := 1155) (d' := d - 1) (mc' := 8) (ms' := 48) g dL_law_1155 cb_L_upper cw_L_upper ml_L_271 ms_L_upper (Nat.le_of_ble_eq_true rfl) (by first | exact jl_d0 hd rfl | omega) (by first | exact Nat.le_of_ble_eq_true rfl | omega) (by first | exact Nat.le_of_ble_eq_true rfl | omega) ?_
    refine s_L_upper g nc (by omega) hI (fun v4 h4 I4 X4 k4 o4 => sg_K1 ?_)
    refine sg_istore (pc := 1158) dL_law_1158 (by decide) ?_
    refine sg_aload_n (pc := 1160) (j := 2) dL_law_1160 rfl rfl ?_
    refine sg_aload_n (pc := 1161) (j := 0) dL_law_1161 rfl rfl ?_
    refine sg_iload (pc := 1162) dL_law_1162 rfl ?_
    refine sg_iconst (pc := 1164) (z := 1) dL_law_1164 (by decide) ?_
    first | refine sg_iaddB (pc := 1165) dL_law_1165 (by omega) (by omega) ?_ | refine sg_iadd (pc := 1165) dL_law_1165 ?_
    refine sg_iald (pc := 1166) dL_law_1166 I4.2.2.2.2.2.2.2.2.2 rfl (by omega) (jk_x (by omega) (by omega)) ?_
    refine sg_aload_n (pc := 1167) (j := 0) dL_law_1167 rfl rfl ?_
    refine sg_iload (pc := 1168) dL_law_1168 rfl ?_
    refine sg_iconst (pc := 1170) (z := 2) dL_law_1170 (by decide) ?_
    first | refine sg_iaddB (pc := 1171) dL_law_1171 (by omega) (by omega) ?_ | refine sg_iadd (pc := 1171) dL_law_1171 ?_
    refine sg_iald (pc := 1172) dL_law_1172 I4.2.2.2.2.2.2.2.2.2 rfl (by omega) (jk_x (by omega) (by omega)) ?_
    refine sg_if_eq (pc := 1173) (tgt := 1180) dL_law_1173 (by decide) (fun c1173 => ?_) (fun c1173 => ?_)
    · refine sg_iconst (pc := 1180) (z := 0) dL_law_1180 (by decide) ?_
      refine st_as (fun H r => jk_tgR (B := B) r) ?_
      have m5 := jk_Im I4
      refine sg_cE2 (pc := 1181) (d' := d - 1) (mc' := 0) (ms' := 0) 8 g dL_law_1181 cb_X7_upper ml_L_274 mn_X7_upper rfl mv_X7_upper (Nat.le_of_ble_eq_true rfl) (md_oc m5) (Nat.le_of_ble_eq_true rfl) (by first | exact jl_d0 hd rfl | omega) (by first | exact Nat.le_of_ble_eq_true rfl | omega) (by first | exact Nat.le_of_ble_eq_true rfl | omega) ?_
      refine s_X7_upper g (by first | exact jl_d1 hd rfl | omega) m5 (fun v5 h5 c5_0 c5_1 y5 => sg_K1 ?_)
      refine st_as (fun H r => jk_unR I4.1 r) ?_
      have I5 := jk_IM I4 y5
      have eo := jk_oM I4 y5
      refine sg_istore (pc := 1184) dL_law_1184 (by decide) ?_
      refine sg_goto (pc := 1186) (tgt := 2465) dL_law_1186 (by decide) ?_
      refine sg_lsub (lv' := [(0, _), (1, _), (2, _), (3, _), (4, _)]) ⟨rfl, rfl, rfl, rfl, rfl, trivial⟩ ?_
      exact K _ _ _ I5 (by omega) (by omega)
    · refine sg_iconst (pc := 1176) (z := 1) dL_law_1176 (by decide) ?_
      refine sg_goto (pc := 1177) (tgt := 1181) dL_law_1177 (by decide) ?_
      refine st_as (fun H r => jk_tgR (B := B) r) ?_
      have m6 := jk_Im I4
      refine sg_cE2 (pc := 1181) (d' := d - 1) (mc' := 0) (ms' := 0) 8 g dL_law_1181 cb_X7_upper ml_L_274 mn_X7_upper rfl mv_X7_upper (Nat.le_of_ble_eq_true rfl) (md_oc m6) (Nat.le_of_ble_eq_true rfl) (by first | exact jl_d0 hd rfl | omega) (by first | exact Nat.le_of_ble_eq_true rfl | omega) (by first | exact Nat.le_of_ble_eq_true rfl | omega) ?_
      refine s_X7_upper g (by first | exact jl_d1 hd rfl | omega) m6 (fun v6 h6 c6_0 c6_1 y6 => sg_K1 ?_)
      refine st_as (fun H r => jk_unR I4.1 r) ?_
      have I6 := jk_IM I4 y6
      have eo := jk_oM I4 y6
      refine sg_istore (pc := 1184) dL_law_1184 (by decide) ?_
      refine sg_goto (pc := 1186) (tgt := 2465) dL_law_1186 (by decide) ?_
      refine sg_lsub (lv' := [(0, _), (1, _), (2, _), (3, _), (4, _)]) ⟨rfl, rfl, rfl, rfl, rfl, trivial⟩ ?_
      exact K _ _ _ I6 (by omega) (by omega)

set_option maxRecDepth 100000 in
set_option maxHeartbeats 1000000 in
theorem lw_c25 {w : sg_W} {Q : sg_O → sg_H → Prop} {h : sg_H} (g : sg_G w) (nc : jk_C w) (hJ : jz w) {d mc ms : Nat} (hd : 30 ≤ d) {B M O S j k n : Nat} {xs : List Int} (hI : jk_I w B M O S xs h) (hj : 6 * j + 6 ≤ xs.length) (hl : xs.length ≤ 3072) (hk : k + 1030 ≤ mc) (hn : n + (48 + 0) ≤ ms) (K : ∀ (h' : sg_H) (k' n' : Nat), jk_I w B M O S xs h' → k' ≤ k + 1030 → n' ≤ n + (48 + 0) → sg_R w mi_L_law d mc ms Q 2465 [(0, sg_r S), (1, sg_r B), (2, sg_r M), (3, sg_r O), (4, sg_i (6 * (j : Int)))] [] h' k' n') : sg_R w mi_L_law d mc ms Q 1189 [(0, sg_r S), (1, sg_r B), (2, sg_r M), (3, sg_r O), (4, sg_i (6 * (j : Int)))] [] h k n := by
  refine sg_aload_n (pc := 1189) (j := 1) dL_law_1189 rfl rfl ?_
  refine sg_aload_n (pc := 1190) (j := 0) dL_law_1190 rfl rfl ?_
  refine sg_iload (pc := 1191) dL_law_1191 rfl ?_
  refine sg_iconst (pc := 1193) (z := 1) dL_law_1193 (by decide) ?_
  first | refine sg_iaddB (pc := 1194) dL_law_1194 (by omega) (by omega) ?_ | refine sg_iadd (pc := 1194) dL_law_1194 ?_
  refine sg_iald (pc := 1195) dL_law_1195 hI.2.2.2.2.2.2.2.2.2 rfl (by omega) (jk_x (by omega) (by omega)) ?_
  refine sg_aload_n (pc := 1196) (j := 0) dL_law_1196 rfl rfl ?_
  refine sg_iload (pc := 1197) dL_law_1197 rfl ?_
  refine sg_iconst (pc := 1199) (z := 2) dL_law_1199 (by decide) ?_
  first | refine sg_iaddB (pc := 1200) dL_law_1200 (by omega) (by omega) ?_ | refine sg_iadd (pc := 1200) dL_law_1200 ?_
  refine sg_iald (pc := 1201) dL_law_1201 hI.2.2.2.2.2.2.2.2.2 rfl (by omega) (jk_x (by omega) (by omega)) ?_
  refine sg_if_eq (pc := 1202) (tgt := 1209) dL_law_1202 (by decide) (fun c1202 => ?_) (fun c1202 => ?_)
  · refine sg_iconst (pc := 1209) (z := 0) dL_law_1209 (by decide) ?_
    refine sg_aload_n (pc := 1210) (j := 3) dL_law_1210 rfl rfl ?_
    refine st_cS4 (pc := 1211) (d' := d - 1) (mc' := 8) (ms' := 48) g dL_law_1211 cb_L_lower cw_L_lower ml_L_275 ms_L_lower (Nat.le_of_ble_eq_true rfl) (by first | exact jl_d0 hd rfl | omega) (by first | exact Nat.le_of_ble_eq_true rfl | omega) (by first | exact Nat.le_of_ble_eq_true rfl | omega) ?_
    refine s_L_lower g nc (by omega) hI (fun v1 h1 I1 X1 k1 o1 => sg_K1 ?_)
    refine sg_istore (pc := 1214) dL_law_1214 (by decide) ?_
    refine sg_aload_n (pc := 1216) (j := 2) dL_law_1216 rfl rfl ?_
    refine sg_aload_n (pc := 1217) (j := 0) dL_law_1217 rfl rfl ?_
    refine sg_iload (pc := 1218) dL_law_1218 rfl ?_
    refine sg_iconst (pc := 1220) (z := 1) dL_law_1220 (by decide) ?_
    first | refine sg_iaddB (pc := 1221) dL_law_1221 (by omega) (by omega) ?_ | refine sg_iadd (pc := 1221) dL_law_1221 ?_
    refine sg_iald (pc := 1222) dL_law_1222 I1.2.2.2.2.2.2.2.2.2 rfl (by omega) (jk_x (by omega) (by omega)) ?_
    refine sg_aload_n (pc := 1223) (j := 0) dL_law_1223 rfl rfl ?_
    refine sg_iload (pc := 1224) dL_law_1224 rfl ?_
    refine sg_iconst (pc := 1226) (z := 2) dL_law_1226 (by decide) ?_
    first | refine sg_iaddB (pc := 1227) dL_law_1227 (by omega) (by omega) ?_ | refine sg_iadd (pc := 1227) dL_law_1227 ?_
    refine sg_iald (pc := 1228) dL_law_1228 I1.2.2.2.2.2.2.2.2.2 rfl (by omega) (jk_x (by omega) (by omega)) ?_
    refine sg_if_eq (pc := 1229) (tgt := 1236) dL_law_1229 (by decide) (fun c1229 => ?_) (fun c1229 => ?_)
    · refine sg_iconst (pc := 1236) (z := 0) dL_law_1236 (by decide) ?_
      refine st_as (fun H r => jk_tgR (B := B) r) ?_
      have m2 := jk_Im I1
      refine sg_cE2 (pc := 1237) (d' := d - 1) (mc' := 0) (ms' := 0) 8 g dL_law_1237 cb_X7_lower ml_L_277 mn_X7_lower rfl mv_X7_lower (Nat.le_of_ble_eq_true rfl) (md_oc m2) (Nat.le_of_ble_eq_true rfl) (by first | exact jl_d0 hd rfl | omega) (by first | exact Nat.le_of_ble_eq_true rfl | omega) (by first | exact Nat.le_of_ble_eq_true rfl | omega) ?_
      refine s_X7_lower g (by first | exact jl_d1 hd rfl | omega) m2 (fun v2 h2 c2_0 c2_1 y2 => sg_K1 ?_)
      refine st_as (fun H r => jk_unR I1.1 r) ?_
      have I2 := jk_IM I1 y2
      have eo := jk_oM I1 y2
      refine sg_istore (pc := 1240) dL_law_1240 (by decide) ?_
      refine sg_goto (pc := 1242) (tgt := 2465) dL_law_1242 (by decide) ?_
      refine sg_lsub (lv' := [(0, _), (1, _), (2, _), (3, _), (4, _)]) ⟨rfl, rfl, rfl, rfl, rfl, trivial⟩ ?_
      exact K _ _ _ I2 (by omega) (by omega)
    · refine sg_iconst (pc := 1232) (z := 1) dL_law_1232 (by decide) ?_
      refine sg_goto (pc := 1233) (tgt := 1237) dL_law_1233 (by decide) ?_
      refine st_as (fun H r => jk_tgR (B := B) r) ?_
      have m3 := jk_Im I1
      refine sg_cE2 (pc := 1237) (d' := d - 1) (mc' := 0) (ms' := 0) 8 g dL_law_1237 cb_X7_lower ml_L_277 mn_X7_lower rfl mv_X7_lower (Nat.le_of_ble_eq_true rfl) (md_oc m3) (Nat.le_of_ble_eq_true rfl) (by first | exact jl_d0 hd rfl | omega) (by first | exact Nat.le_of_ble_eq_true rfl | omega) (by first | exact Nat.le_of_ble_eq_true rfl | omega) ?_
      refine s_X7_lower g (by first | exact jl_d1 hd rfl | omega) m3 (fun v3 h3 c3_0 c3_1 y3 => sg_K1 ?_)
      refine st_as (fun H r => jk_unR I1.1 r) ?_
      have I3 := jk_IM I1 y3
      have eo := jk_oM I1 y3
      refine sg_istore (pc := 1240) dL_law_1240 (by decide) ?_
      refine sg_goto (pc := 1242) (tgt := 2465) dL_law_1242 (by decide) ?_
      refine sg_lsub (lv' := [(0, _), (1, _), (2, _), (3, _), (4, _)]) ⟨rfl, rfl, rfl, rfl, rfl, trivial⟩ ?_
      exact K _ _ _ I3 (by omega) (by omega)
  · refine sg_iconst (pc := 1205) (z := 1) dL_law_1205 (by decide) ?_
    refine sg_goto (pc := 1206) (tgt := 1210) dL_law_1206 (by decide) ?_
    refine sg_aload_n (pc := 1210) (j := 3) dL_law_1210 rfl rfl ?_
    refine st_cS4 (pc := 1211) (d' := d - 1) (mc' := 8) (ms' := 48) g dL_law_1211 cb_L_lower cw_L_lower ml_L_275 ms_L_lower (Nat.le_of_ble_eq_true rfl) (by first | exact jl_d0 hd rfl | omega) (by first | exact Nat.le_of_ble_eq_true rfl | omega) (by first | exact Nat.le_of_ble_eq_true rfl | omega) ?_
    refine s_L_lower g nc (by omega) hI (fun v4 h4 I4 X4 k4 o4 => sg_K1 ?_)
    refine sg_istore (pc := 1214) dL_law_1214 (by decide) ?_
    refine sg_aload_n (pc := 1216) (j := 2) dL_law_1216 rfl rfl ?_
    refine sg_aload_n (pc := 1217) (j := 0) dL_law_1217 rfl rfl ?_
    refine sg_iload (pc := 1218) dL_law_1218 rfl ?_
    refine sg_iconst (pc := 1220) (z := 1) dL_law_1220 (by decide) ?_
    first | refine sg_iaddB (pc := 1221) dL_law_1221 (by omega) (by omega) ?_ | refine sg_iadd (pc := 1221) dL_law_1221 ?_
    refine sg_iald (pc := 1222) dL_law_1222 I4.2.2.2.2.2.2.2.2.2 rfl (by omega) (jk_x (by omega) (by omega)) ?_
    refine sg_aload_n (pc := 1223) (j := 0) dL_law_1223 rfl rfl ?_
    refine sg_iload (pc := 1224) dL_law_1224 rfl ?_
    refine sg_iconst (pc := 1226) (z := 2) dL_law_1226 (by decide) ?_
    first | refine sg_iaddB (pc := 1227) dL_law_1227 (by omega) (by omega) ?_ | refine sg_iadd (pc := 1227) dL_law_1227 ?_
    refine sg_iald (pc := 1228) dL_law_1228 I4.2.2.2.2.2.2.2.2.2 rfl (by omega) (jk_x (by omega) (by omega)) ?_
    refine sg_if_eq (pc := 1229) (tgt := 1236) dL_law_1229 (by decide) (fun c1229 => ?_) (fun c1229 => ?_)
    · refine sg_iconst (pc := 1236) (z := 0) dL_law_1236 (by decide) ?_
      refine st_as (fun H r => jk_tgR (B := B) r) ?_
      have m5 := jk_Im I4
      refine sg_cE2 (pc := 1237) (d' := d - 1) (mc' := 0) (ms' := 0) 8 g dL_law_1237 cb_X7_lower ml_L_277 mn_X7_lower rfl mv_X7_lower (Nat.le_of_ble_eq_true rfl) (md_oc m5) (Nat.le_of_ble_eq_true rfl) (by first | exact jl_d0 hd rfl | omega) (by first | exact Nat.le_of_ble_eq_true rfl | omega) (by first | exact Nat.le_of_ble_eq_true rfl | omega) ?_
      refine s_X7_lower g (by first | exact jl_d1 hd rfl | omega) m5 (fun v5 h5 c5_0 c5_1 y5 => sg_K1 ?_)
      refine st_as (fun H r => jk_unR I4.1 r) ?_
      have I5 := jk_IM I4 y5
      have eo := jk_oM I4 y5
      refine sg_istore (pc := 1240) dL_law_1240 (by decide) ?_
      refine sg_goto (pc := 1242) (tgt := 2465) dL_law_1242 (by decide) ?_
      refine sg_lsub (lv' := [(0, _), (1, _), (2, _), (3, _), (4, _)]) ⟨rfl, rfl, rfl, rfl, rfl, trivial⟩ ?_
      exact K _ _ _ I5 (by omega) (by omega)
    · refine sg_iconst (pc := 1232) (z := 1) dL_law_1232 (by decide) ?_
      refine sg_goto (pc := 1233) (tgt := 1237) dL_law_1233 (by decide) ?_
      refine st_as (fun H r => jk_tgR (B := B) r) ?_
      have m6 := jk_Im I4
      refine sg_cE2 (pc := 1237) (d' := d - 1) (mc' := 0) (ms' := 0) 8 g dL_law_1237 cb_X7_lower ml_L_277 mn_X7_lower rfl mv_X7_lower (Nat.le_of_ble_eq_true rfl) (md_oc m6) (Nat.le_of_ble_eq_true rfl) (by first | exact jl_d0 hd rfl | omega) (by first | exact Nat.le_of_ble_eq_true rfl | omega) (by first | exact Nat.le_of_ble_eq_true rfl | omega) ?_
      refine s_X7_lower g (by first | exact jl_d1 hd rfl | omega) m6 (fun v6 h6 c6_0 c6_1 y6 => sg_K1 ?_)
      refine st_as (fun H r => jk_unR I4.1 r) ?_
      have I6 := jk_IM I4 y6
      have eo := jk_oM I4 y6
      refine sg_istore (pc := 1240) dL_law_1240 (by decide) ?_
      refine sg_goto (pc := 1242) (tgt := 2465) dL_law_1242 (by decide) ?_
      refine sg_lsub (lv' := [(0, _), (1, _), (2, _), (3, _), (4, _)]) ⟨rfl, rfl, rfl, rfl, rfl, trivial⟩ ?_
      exact K _ _ _ I6 (by omega) (by omega)

set_option maxRecDepth 100000 in
set_option maxHeartbeats 1000000 in
theorem lw_c26 {w : sg_W} {Q : sg_O → sg_H → Prop} {h : sg_H} (g : sg_G w) (nc : jk_C w) (hJ : jz w) {d mc ms : Nat} (hd : 30 ≤ d) {B M O S j k n : Nat} {xs : List Int} (hI : jk_I w B M O S xs h) (hj : 6 * j + 6 ≤ xs.length) (hl : xs.length ≤ 3072) (hk : k + 1030 ≤ mc) (hn : n + (48 + 0) ≤ ms) (K : ∀ (h' : sg_H) (k' n' : Nat), jk_I w B M O S xs h' → k' ≤ k + 1030 → n' ≤ n + (48 + 0) → sg_R w mi_L_law d mc ms Q 2465 [(0, sg_r S), (1, sg_r B), (2, sg_r M), (3, sg_r O), (4, sg_i (6 * (j : Int)))] [] h' k' n') : sg_R w mi_L_law d mc ms Q 1245 [(0, sg_r S), (1, sg_r B), (2, sg_r M), (3, sg_r O), (4, sg_i (6 * (j : Int)))] [] h k n := by
  refine sg_aload_n (pc := 1245) (j := 1) dL_law_1245 rfl rfl ?_
  refine sg_aload_n (pc := 1246) (j := 0) dL_law_1246 rfl rfl ?_
  refine sg_iload (pc := 1247) dL_law_1247 rfl ?_
  refine sg_iconst (pc := 1249) (z := 1) dL_law_1249 (by decide) ?_
  first | refine sg_iaddB (pc := 1250) dL_law_1250 (by omega) (by omega) ?_ | refine sg_iadd (pc := 1250) dL_law_1250 ?_
  refine sg_iald (pc := 1251) dL_law_1251 hI.2.2.2.2.2.2.2.2.2 rfl (by omega) (jk_x (by omega) (by omega)) ?_
  refine sg_aload_n (pc := 1252) (j := 0) dL_law_1252 rfl rfl ?_
  refine sg_iload (pc := 1253) dL_law_1253 rfl ?_
  refine sg_iconst (pc := 1255) (z := 2) dL_law_1255 (by decide) ?_
  first | refine sg_iaddB (pc := 1256) dL_law_1256 (by omega) (by omega) ?_ | refine sg_iadd (pc := 1256) dL_law_1256 ?_
  refine sg_iald (pc := 1257) dL_law_1257 hI.2.2.2.2.2.2.2.2.2 rfl (by omega) (jk_x (by omega) (by omega)) ?_
  refine sg_if_eq (pc := 1258) (tgt := 1265) dL_law_1258 (by decide) (fun c1258 => ?_) (fun c1258 => ?_)
  · refine sg_iconst (pc := 1265) (z := 0) dL_law_1265 (by decide) ?_
    refine sg_aload_n (pc := 1266) (j := 3) dL_law_1266 rfl rfl ?_
    refine st_cS4 (pc := 1267) (d' := d - 1) (mc' := 8) (ms' := 48) g dL_law_1267 cb_L_value cw_L_value ml_L_278 ms_L_value (Nat.le_of_ble_eq_true rfl) (by first | exact jl_d0 hd rfl | omega) (by first | exact Nat.le_of_ble_eq_true rfl | omega) (by first | exact Nat.le_of_ble_eq_true rfl | omega) ?_
    refine s_L_value g nc (by omega) hI (fun v1 h1 I1 X1 k1 o1 => sg_K1 ?_)
    refine sg_istore (pc := 1270) dL_law_1270 (by decide) ?_
    refine sg_aload_n (pc := 1272) (j := 2) dL_law_1272 rfl rfl ?_
    refine sg_aload_n (pc := 1273) (j := 0) dL_law_1273 rfl rfl ?_
    refine sg_iload (pc := 1274) dL_law_1274 rfl ?_
    refine sg_iconst (pc := 1276) (z := 1) dL_law_1276 (by decide) ?_
    first | refine sg_iaddB (pc := 1277) dL_law_1277 (by omega) (by omega) ?_ | refine sg_iadd (pc := 1277) dL_law_1277 ?_
    refine sg_iald (pc := 1278) dL_law_1278 I1.2.2.2.2.2.2.2.2.2 rfl (by omega) (jk_x (by omega) (by omega)) ?_
    refine sg_aload_n (pc := 1279) (j := 0) dL_law_1279 rfl rfl ?_
    refine sg_iload (pc := 1280) dL_law_1280 rfl ?_
    refine sg_iconst (pc := 1282) (z := 2) dL_law_1282 (by decide) ?_
    first | refine sg_iaddB (pc := 1283) dL_law_1283 (by omega) (by omega) ?_ | refine sg_iadd (pc := 1283) dL_law_1283 ?_
    refine sg_iald (pc := 1284) dL_law_1284 I1.2.2.2.2.2.2.2.2.2 rfl (by omega) (jk_x (by omega) (by omega)) ?_
    refine sg_if_eq (pc := 1285) (tgt := 1292) dL_law_1285 (by decide) (fun c1285 => ?_) (fun c1285 => ?_)
    · refine sg_iconst (pc := 1292) (z := 0) dL_law_1292 (by decide) ?_
      refine st_as (fun H r => jk_tgR (B := B) r) ?_
      have m2 := jk_Im I1
      refine sg_cE2 (pc := 1293) (d' := d - 1) (mc' := 0) (ms' := 0) 8 g dL_law_1293 cb_X7_value ml_L_280 mn_X7_value rfl mv_X7_value (Nat.le_of_ble_eq_true rfl) (md_oc m2) (Nat.le_of_ble_eq_true rfl) (by first | exact jl_d0 hd rfl | omega) (by first | exact Nat.le_of_ble_eq_true rfl | omega) (by first | exact Nat.le_of_ble_eq_true rfl | omega) ?_
      refine s_X7_value g (by first | exact jl_d1 hd rfl | omega) m2 (fun v2 h2 c2_0 c2_1 y2 => sg_K1 ?_)
      refine st_as (fun H r => jk_unR I1.1 r) ?_
      have I2 := jk_IM I1 y2
      have eo := jk_oM I1 y2
      refine sg_istore (pc := 1296) dL_law_1296 (by decide) ?_
      refine sg_goto (pc := 1298) (tgt := 2465) dL_law_1298 (by decide) ?_
      refine sg_lsub (lv' := [(0, _), (1, _), (2, _), (3, _), (4, _)]) ⟨rfl, rfl, rfl, rfl, rfl, trivial⟩ ?_
      exact K _ _ _ I2 (by omega) (by omega)
    · refine sg_iconst (pc := 1288) (z := 1) dL_law_1288 (by decide) ?_
      refine sg_goto (pc := 1289) (tgt := 1293) dL_law_1289 (by decide) ?_
      refine st_as (fun H r => jk_tgR (B := B) r) ?_
      have m3 := jk_Im I1
      refine sg_cE2 (pc := 1293) (d' := d - 1) (mc' := 0) (ms' := 0) 8 g dL_law_1293 cb_X7_value ml_L_280 mn_X7_value rfl mv_X7_value (Nat.le_of_ble_eq_true rfl) (md_oc m3) (Nat.le_of_ble_eq_true rfl) (by first | exact jl_d0 hd rfl | omega) (by first | exact Nat.le_of_ble_eq_true rfl | omega) (by first | exact Nat.le_of_ble_eq_true rfl | omega) ?_
      refine s_X7_value g (by first | exact jl_d1 hd rfl | omega) m3 (fun v3 h3 c3_0 c3_1 y3 => sg_K1 ?_)
      refine st_as (fun H r => jk_unR I1.1 r) ?_
      have I3 := jk_IM I1 y3
      have eo := jk_oM I1 y3
      refine sg_istore (pc := 1296) dL_law_1296 (by decide) ?_
      refine sg_goto (pc := 1298) (tgt := 2465) dL_law_1298 (by decide) ?_
      refine sg_lsub (lv' := [(0, _), (1, _), (2, _), (3, _), (4, _)]) ⟨rfl, rfl, rfl, rfl, rfl, trivial⟩ ?_
      exact K _ _ _ I3 (by omega) (by omega)
  · refine sg_iconst (pc := 1261) (z := 1) dL_law_1261 (by decide) ?_
    refine sg_goto (pc := 1262) (tgt := 1266) dL_law_1262 (by decide) ?_
    refine sg_aload_n (pc := 1266) (j := 3) dL_law_1266 rfl rfl ?_
    refine st_cS4 (pc := 1267) (d' := d - 1) (mc' := 8) (ms' := 48) g dL_law_1267 cb_L_value cw_L_value ml_L_278 ms_L_value (Nat.le_of_ble_eq_true rfl) (by first | exact jl_d0 hd rfl | omega) (by first | exact Nat.le_of_ble_eq_true rfl | omega) (by first | exact Nat.le_of_ble_eq_true rfl | omega) ?_
    refine s_L_value g nc (by omega) hI (fun v4 h4 I4 X4 k4 o4 => sg_K1 ?_)
    refine sg_istore (pc := 1270) dL_law_1270 (by decide) ?_
    refine sg_aload_n (pc := 1272) (j := 2) dL_law_1272 rfl rfl ?_
    refine sg_aload_n (pc := 1273) (j := 0) dL_law_1273 rfl rfl ?_
    refine sg_iload (pc := 1274) dL_law_1274 rfl ?_
    refine sg_iconst (pc := 1276) (z := 1) dL_law_1276 (by decide) ?_
    first | refine sg_iaddB (pc := 1277) dL_law_1277 (by omega) (by omega) ?_ | refine sg_iadd (pc := 1277) dL_law_1277 ?_
    refine sg_iald (pc := 1278) dL_law_1278 I4.2.2.2.2.2.2.2.2.2 rfl (by omega) (jk_x (by omega) (by omega)) ?_
    refine sg_aload_n (pc := 1279) (j := 0) dL_law_1279 rfl rfl ?_
    refine sg_iload (pc := 1280) dL_law_1280 rfl ?_
    refine sg_iconst (pc := 1282) (z := 2) dL_law_1282 (by decide) ?_
    first | refine sg_iaddB (pc := 1283) dL_law_1283 (by omega) (by omega) ?_ | refine sg_iadd (pc := 1283) dL_law_1283 ?_
    refine sg_iald (pc := 1284) dL_law_1284 I4.2.2.2.2.2.2.2.2.2 rfl (by omega) (jk_x (by omega) (by omega)) ?_
    refine sg_if_eq (pc := 1285) (tgt := 1292) dL_law_1285 (by decide) (fun c1285 => ?_) (fun c1285 => ?_)
    · refine sg_iconst (pc := 1292) (z := 0) dL_law_1292 (by decide) ?_
      refine st_as (fun H r => jk_tgR (B := B) r) ?_
      have m5 := jk_Im I4
      refine sg_cE2 (pc := 1293) (d' := d - 1) (mc' := 0) (ms' := 0) 8 g dL_law_1293 cb_X7_value ml_L_280 mn_X7_value rfl mv_X7_value (Nat.le_of_ble_eq_true rfl) (md_oc m5) (Nat.le_of_ble_eq_true rfl) (by first | exact jl_d0 hd rfl | omega) (by first | exact Nat.le_of_ble_eq_true rfl | omega) (by first | exact Nat.le_of_ble_eq_true rfl | omega) ?_
      refine s_X7_value g (by first | exact jl_d1 hd rfl | omega) m5 (fun v5 h5 c5_0 c5_1 y5 => sg_K1 ?_)
      refine st_as (fun H r => jk_unR I4.1 r) ?_
      have I5 := jk_IM I4 y5
      have eo := jk_oM I4 y5
      refine sg_istore (pc := 1296) dL_law_1296 (by decide) ?_
      refine sg_goto (pc := 1298) (tgt := 2465) dL_law_1298 (by decide) ?_
      refine sg_lsub (lv' := [(0, _), (1, _), (2, _), (3, _), (4, _)]) ⟨rfl, rfl, rfl, rfl, rfl, trivial⟩ ?_
      exact K _ _ _ I5 (by omega) (by omega)
    · refine sg_iconst (pc := 1288) (z := 1) dL_law_1288 (by decide) ?_
      refine sg_goto (pc := 1289) (tgt := 1293) dL_law_1289 (by decide) ?_
      refine st_as (fun H r => jk_tgR (B := B) r) ?_
      have m6 := jk_Im I4
      refine sg_cE2 (pc := 1293) (d' := d - 1) (mc' := 0) (ms' := 0) 8 g dL_law_1293 cb_X7_value ml_L_280 mn_X7_value rfl mv_X7_value (Nat.le_of_ble_eq_true rfl) (md_oc m6) (Nat.le_of_ble_eq_true rfl) (by first | exact jl_d0 hd rfl | omega) (by first | exact Nat.le_of_ble_eq_true rfl | omega) (by first | exact Nat.le_of_ble_eq_true rfl | omega) ?_
      refine s_X7_value g (by first | exact jl_d1 hd rfl | omega) m6 (fun v6 h6 c6_0 c6_1 y6 => sg_K1 ?_)
      refine st_as (fun H r => jk_unR I4.1 r) ?_
      have I6 := jk_IM I4 y6
      have eo := jk_oM I4 y6
      refine sg_istore (pc := 1296) dL_law_1296 (by decide) ?_
      refine sg_goto (pc := 1298) (tgt := 2465) dL_law_1298 (by decide) ?_
      refine sg_lsub (lv' := [(0, _), (1, _), (2, _), (3, _), (4, _)]) ⟨rfl, rfl, rfl, rfl, rfl, trivial⟩ ?_
      exact K _ _ _ I6 (by omega) (by omega)

set_option maxRecDepth 100000 in
set_option maxHeartbeats 1000000 in
theorem lw_c27 {w : sg_W} {Q : sg_O → sg_H → Prop} {h : sg_H} (g : sg_G w) (nc : jk_C w) (hJ : jz w) {d mc ms : Nat} (hd : 30 ≤ d) {B M O S j k n : Nat} {xs : List Int} (hI : jk_I w B M O S xs h) (hj : 6 * j + 6 ≤ xs.length) (hl : xs.length ≤ 3072) (hk : k + 1030 ≤ mc) (hn : n + (48 + 0) ≤ ms) (K : ∀ (h' : sg_H) (k' n' : Nat), jk_I w B M O S xs h' → k' ≤ k + 1030 → n' ≤ n + (48 + 0) → sg_R w mi_L_law d mc ms Q 2465 [(0, sg_r S), (1, sg_r B), (2, sg_r M), (3, sg_r O), (4, sg_i (6 * (j : Int)))] [] h' k' n') : sg_R w mi_L_law d mc ms Q 1301 [(0, sg_r S), (1, sg_r B), (2, sg_r M), (3, sg_r O), (4, sg_i (6 * (j : Int)))] [] h k n := by
  refine sg_aload_n (pc := 1301) (j := 1) dL_law_1301 rfl rfl ?_
  refine sg_aload_n (pc := 1302) (j := 0) dL_law_1302 rfl rfl ?_
  refine sg_iload (pc := 1303) dL_law_1303 rfl ?_
  refine sg_iconst (pc := 1305) (z := 1) dL_law_1305 (by decide) ?_
  first | refine sg_iaddB (pc := 1306) dL_law_1306 (by omega) (by omega) ?_ | refine sg_iadd (pc := 1306) dL_law_1306 ?_
  refine sg_iald (pc := 1307) dL_law_1307 hI.2.2.2.2.2.2.2.2.2 rfl (by omega) (jk_x (by omega) (by omega)) ?_
  refine sg_aload_n (pc := 1308) (j := 0) dL_law_1308 rfl rfl ?_
  refine sg_iload (pc := 1309) dL_law_1309 rfl ?_
  refine sg_iconst (pc := 1311) (z := 2) dL_law_1311 (by decide) ?_
  first | refine sg_iaddB (pc := 1312) dL_law_1312 (by omega) (by omega) ?_ | refine sg_iadd (pc := 1312) dL_law_1312 ?_
  refine sg_iald (pc := 1313) dL_law_1313 hI.2.2.2.2.2.2.2.2.2 rfl (by omega) (jk_x (by omega) (by omega)) ?_
  refine sg_aload_n (pc := 1314) (j := 0) dL_law_1314 rfl rfl ?_
  refine sg_iload (pc := 1315) dL_law_1315 rfl ?_
  refine sg_iconst (pc := 1317) (z := 3) dL_law_1317 (by decide) ?_
  first | refine sg_iaddB (pc := 1318) dL_law_1318 (by omega) (by omega) ?_ | refine sg_iadd (pc := 1318) dL_law_1318 ?_
  refine sg_iald (pc := 1319) dL_law_1319 hI.2.2.2.2.2.2.2.2.2 rfl (by omega) (jk_x (by omega) (by omega)) ?_
  refine sg_if_eq (pc := 1320) (tgt := 1327) dL_law_1320 (by decide) (fun c1320 => ?_) (fun c1320 => ?_)
  · refine sg_iconst (pc := 1327) (z := 0) dL_law_1327 (by decide) ?_
    refine sg_aload_n (pc := 1328) (j := 3) dL_law_1328 rfl rfl ?_
    refine st_cS5 (pc := 1329) (d' := d - 1) (mc' := 8) (ms' := 48) g dL_law_1329 cb_L_number cw_L_number ml_L_281 ms_L_number (Nat.le_of_ble_eq_true rfl) (by first | exact jl_d0 hd rfl | omega) (by first | exact Nat.le_of_ble_eq_true rfl | omega) (by first | exact Nat.le_of_ble_eq_true rfl | omega) ?_
    refine s_L_number g nc (by omega) hI (fun v1 h1 I1 X1 k1 o1 => sg_K1 ?_)
    refine sg_istore (pc := 1332) dL_law_1332 (by decide) ?_
    refine sg_aload_n (pc := 1334) (j := 2) dL_law_1334 rfl rfl ?_
    refine sg_aload_n (pc := 1335) (j := 0) dL_law_1335 rfl rfl ?_
    refine sg_iload (pc := 1336) dL_law_1336 rfl ?_
    refine sg_iconst (pc := 1338) (z := 1) dL_law_1338 (by decide) ?_
    first | refine sg_iaddB (pc := 1339) dL_law_1339 (by omega) (by omega) ?_ | refine sg_iadd (pc := 1339) dL_law_1339 ?_
    refine sg_iald (pc := 1340) dL_law_1340 I1.2.2.2.2.2.2.2.2.2 rfl (by omega) (jk_x (by omega) (by omega)) ?_
    refine sg_aload_n (pc := 1341) (j := 0) dL_law_1341 rfl rfl ?_
    refine sg_iload (pc := 1342) dL_law_1342 rfl ?_
    refine sg_iconst (pc := 1344) (z := 2) dL_law_1344 (by decide) ?_
    first | refine sg_iaddB (pc := 1345) dL_law_1345 (by omega) (by omega) ?_ | refine sg_iadd (pc := 1345) dL_law_1345 ?_
    refine sg_iald (pc := 1346) dL_law_1346 I1.2.2.2.2.2.2.2.2.2 rfl (by omega) (jk_x (by omega) (by omega)) ?_
    refine sg_aload_n (pc := 1347) (j := 0) dL_law_1347 rfl rfl ?_
    refine sg_iload (pc := 1348) dL_law_1348 rfl ?_
    refine sg_iconst (pc := 1350) (z := 3) dL_law_1350 (by decide) ?_
    first | refine sg_iaddB (pc := 1351) dL_law_1351 (by omega) (by omega) ?_ | refine sg_iadd (pc := 1351) dL_law_1351 ?_
    refine sg_iald (pc := 1352) dL_law_1352 I1.2.2.2.2.2.2.2.2.2 rfl (by omega) (jk_x (by omega) (by omega)) ?_
    refine sg_if_eq (pc := 1353) (tgt := 1360) dL_law_1353 (by decide) (fun c1353 => ?_) (fun c1353 => ?_)
    · refine sg_iconst (pc := 1360) (z := 0) dL_law_1360 (by decide) ?_
      refine st_as (fun H r => jk_tgR (B := B) r) ?_
      have m2 := jk_Im I1
      refine sg_cE3 (pc := 1361) (d' := d - 1) (mc' := 0) (ms' := 0) 8 g dL_law_1361 cb_X7_number ml_L_283 mn_X7_number rfl mv_X7_number (Nat.le_of_ble_eq_true rfl) (md_oc m2) (Nat.le_of_ble_eq_true rfl) (by first | exact jl_d0 hd rfl | omega) (by first | exact Nat.le_of_ble_eq_true rfl | omega) (by first | exact Nat.le_of_ble_eq_true rfl | omega) ?_
      refine s_X7_number g (by first | exact jl_d1 hd rfl | omega) m2 (fun v2 h2 c2_0 c2_1 y2 => sg_K1 ?_)
      refine st_as (fun H r => jk_unR I1.1 r) ?_
      have I2 := jk_IM I1 y2
      have eo := jk_oM I1 y2
      refine sg_istore (pc := 1364) dL_law_1364 (by decide) ?_
      refine sg_goto (pc := 1366) (tgt := 2465) dL_law_1366 (by decide) ?_
      refine sg_lsub (lv' := [(0, _), (1, _), (2, _), (3, _), (4, _)]) ⟨rfl, rfl, rfl, rfl, rfl, trivial⟩ ?_
      exact K _ _ _ I2 (by omega) (by omega)
    · refine sg_iconst (pc := 1356) (z := 1) dL_law_1356 (by decide) ?_
      refine sg_goto (pc := 1357) (tgt := 1361) dL_law_1357 (by decide) ?_
      refine st_as (fun H r => jk_tgR (B := B) r) ?_
      have m3 := jk_Im I1
      refine sg_cE3 (pc := 1361) (d' := d - 1) (mc' := 0) (ms' := 0) 8 g dL_law_1361 cb_X7_number ml_L_283 mn_X7_number rfl mv_X7_number (Nat.le_of_ble_eq_true rfl) (md_oc m3) (Nat.le_of_ble_eq_true rfl) (by first | exact jl_d0 hd rfl | omega) (by first | exact Nat.le_of_ble_eq_true rfl | omega) (by first | exact Nat.le_of_ble_eq_true rfl | omega) ?_
      refine s_X7_number g (by first | exact jl_d1 hd rfl | omega) m3 (fun v3 h3 c3_0 c3_1 y3 => sg_K1 ?_)
      refine st_as (fun H r => jk_unR I1.1 r) ?_
      have I3 := jk_IM I1 y3
      have eo := jk_oM I1 y3
      refine sg_istore (pc := 1364) dL_law_1364 (by decide) ?_
      refine sg_goto (pc := 1366) (tgt := 2465) dL_law_1366 (by decide) ?_
      refine sg_lsub (lv' := [(0, _), (1, _), (2, _), (3, _), (4, _)]) ⟨rfl, rfl, rfl, rfl, rfl, trivial⟩ ?_
      exact K _ _ _ I3 (by omega) (by omega)
  · refine sg_iconst (pc := 1323) (z := 1) dL_law_1323 (by decide) ?_
    refine sg_goto (pc := 1324) (tgt := 1328) dL_law_1324 (by decide) ?_
    refine sg_aload_n (pc := 1328) (j := 3) dL_law_1328 rfl rfl ?_
    refine st_cS5 (pc := 1329) (d' := d - 1) (mc' := 8) (ms' := 48) g dL_law_1329 cb_L_number cw_L_number ml_L_281 ms_L_number (Nat.le_of_ble_eq_true rfl) (by first | exact jl_d0 hd rfl | omega) (by first | exact Nat.le_of_ble_eq_true rfl | omega) (by first | exact Nat.le_of_ble_eq_true rfl | omega) ?_
    refine s_L_number g nc (by omega) hI (fun v4 h4 I4 X4 k4 o4 => sg_K1 ?_)
    refine sg_istore (pc := 1332) dL_law_1332 (by decide) ?_
    refine sg_aload_n (pc := 1334) (j := 2) dL_law_1334 rfl rfl ?_
    refine sg_aload_n (pc := 1335) (j := 0) dL_law_1335 rfl rfl ?_
    refine sg_iload (pc := 1336) dL_law_1336 rfl ?_
    refine sg_iconst (pc := 1338) (z := 1) dL_law_1338 (by decide) ?_
    first | refine sg_iaddB (pc := 1339) dL_law_1339 (by omega) (by omega) ?_ | refine sg_iadd (pc := 1339) dL_law_1339 ?_
    refine sg_iald (pc := 1340) dL_law_1340 I4.2.2.2.2.2.2.2.2.2 rfl (by omega) (jk_x (by omega) (by omega)) ?_
    refine sg_aload_n (pc := 1341) (j := 0) dL_law_1341 rfl rfl ?_
    refine sg_iload (pc := 1342) dL_law_1342 rfl ?_
    refine sg_iconst (pc := 1344) (z := 2) dL_law_1344 (by decide) ?_
    first | refine sg_iaddB (pc := 1345) dL_law_1345 (by omega) (by omega) ?_ | refine sg_iadd (pc := 1345) dL_law_1345 ?_
    refine sg_iald (pc := 1346) dL_law_1346 I4.2.2.2.2.2.2.2.2.2 rfl (by omega) (jk_x (by omega) (by omega)) ?_
    refine sg_aload_n (pc := 1347) (j := 0) dL_law_1347 rfl rfl ?_
    refine sg_iload (pc := 1348) dL_law_1348 rfl ?_
    refine sg_iconst (pc := 1350) (z := 3) dL_law_1350 (by decide) ?_
    first | refine sg_iaddB (pc := 1351) dL_law_1351 (by omega) (by omega) ?_ | refine sg_iadd (pc := 1351) dL_law_1351 ?_
    refine sg_iald (pc := 1352) dL_law_1352 I4.2.2.2.2.2.2.2.2.2 rfl (by omega) (jk_x (by omega) (by omega)) ?_
    refine sg_if_eq (pc := 1353) (tgt := 1360) dL_law_1353 (by decide) (fun c1353 => ?_) (fun c1353 => ?_)
    · refine sg_iconst (pc := 1360) (z := 0) dL_law_1360 (by decide) ?_
      refine st_as (fun H r => jk_tgR (B := B) r) ?_
      have m5 := jk_Im I4
      refine sg_cE3 (pc := 1361) (d' := d - 1) (mc' := 0) (ms' := 0) 8 g dL_law_1361 cb_X7_number ml_L_283 mn_X7_number rfl mv_X7_number (Nat.le_of_ble_eq_true rfl) (md_oc m5) (Nat.le_of_ble_eq_true rfl) (by first | exact jl_d0 hd rfl | omega) (by first | exact Nat.le_of_ble_eq_true rfl | omega) (by first | exact Nat.le_of_ble_eq_true rfl | omega) ?_
      refine s_X7_number g (by first | exact jl_d1 hd rfl | omega) m5 (fun v5 h5 c5_0 c5_1 y5 => sg_K1 ?_)
      refine st_as (fun H r => jk_unR I4.1 r) ?_
      have I5 := jk_IM I4 y5
      have eo := jk_oM I4 y5
      refine sg_istore (pc := 1364) dL_law_1364 (by decide) ?_
      refine sg_goto (pc := 1366) (tgt := 2465) dL_law_1366 (by decide) ?_
      refine sg_lsub (lv' := [(0, _), (1, _), (2, _), (3, _), (4, _)]) ⟨rfl, rfl, rfl, rfl, rfl, trivial⟩ ?_
      exact K _ _ _ I5 (by omega) (by omega)
    · refine sg_iconst (pc := 1356) (z := 1) dL_law_1356 (by decide) ?_
      refine sg_goto (pc := 1357) (tgt := 1361) dL_law_1357 (by decide) ?_
      refine st_as (fun H r => jk_tgR (B := B) r) ?_
      have m6 := jk_Im I4
      refine sg_cE3 (pc := 1361) (d' := d - 1) (mc' := 0) (ms' := 0) 8 g dL_law_1361 cb_X7_number ml_L_283 mn_X7_number rfl mv_X7_number (Nat.le_of_ble_eq_true rfl) (md_oc m6) (Nat.le_of_ble_eq_true rfl) (by first | exact jl_d0 hd rfl | omega) (by first | exact Nat.le_of_ble_eq_true rfl | omega) (by first | exact Nat.le_of_ble_eq_true rfl | omega) ?_
      refine s_X7_number g (by first | exact jl_d1 hd rfl | omega) m6 (fun v6 h6 c6_0 c6_1 y6 => sg_K1 ?_)
      refine st_as (fun H r => jk_unR I4.1 r) ?_
      have I6 := jk_IM I4 y6
      have eo := jk_oM I4 y6
      refine sg_istore (pc := 1364) dL_law_1364 (by decide) ?_
      refine sg_goto (pc := 1366) (tgt := 2465) dL_law_1366 (by decide) ?_
      refine sg_lsub (lv' := [(0, _), (1, _), (2, _), (3, _), (4, _)]) ⟨rfl, rfl, rfl, rfl, rfl, trivial⟩ ?_
      exact K _ _ _ I6 (by omega) (by omega)

set_option maxRecDepth 100000 in
set_option maxHeartbeats 1000000 in
theorem lw_c28 {w : sg_W} {Q : sg_O → sg_H → Prop} {h : sg_H} (g : sg_G w) (nc : jk_C w) (hJ : jz w) {d mc ms : Nat} (hd : 30 ≤ d) {B M O S j k n : Nat} {xs : List Int} (hI : jk_I w B M O S xs h) (hj : 6 * j + 6 ≤ xs.length) (hl : xs.length ≤ 3072) (hk : k + 1030 ≤ mc) (hn : n + (0 + 0) ≤ ms) (K : ∀ (h' : sg_H) (k' n' : Nat), jk_I w B M O S xs h' → k' ≤ k + 1030 → n' ≤ n + (0 + 0) → sg_R w mi_L_law d mc ms Q 2465 [(0, sg_r S), (1, sg_r B), (2, sg_r M), (3, sg_r O), (4, sg_i (6 * (j : Int)))] [] h' k' n') : sg_R w mi_L_law d mc ms Q 1369 [(0, sg_r S), (1, sg_r B), (2, sg_r M), (3, sg_r O), (4, sg_i (6 * (j : Int)))] [] h k n := by
  refine sg_aload_n (pc := 1369) (j := 1) dL_law_1369 rfl rfl ?_
  refine sg_aload_n (pc := 1370) (j := 0) dL_law_1370 rfl rfl ?_
  refine sg_iload (pc := 1371) dL_law_1371 rfl ?_
  refine sg_iconst (pc := 1373) (z := 1) dL_law_1373 (by decide) ?_
  first | refine sg_iaddB (pc := 1374) dL_law_1374 (by omega) (by omega) ?_ | refine sg_iadd (pc := 1374) dL_law_1374 ?_
  refine sg_iald (pc := 1375) dL_law_1375 hI.2.2.2.2.2.2.2.2.2 rfl (by omega) (jk_x (by omega) (by omega)) ?_
  refine sg_aload_n (pc := 1376) (j := 0) dL_law_1376 rfl rfl ?_
  refine sg_iload (pc := 1377) dL_law_1377 rfl ?_
  refine sg_iconst (pc := 1379) (z := 2) dL_law_1379 (by decide) ?_
  first | refine sg_iaddB (pc := 1380) dL_law_1380 (by omega) (by omega) ?_ | refine sg_iadd (pc := 1380) dL_law_1380 ?_
  refine sg_iald (pc := 1381) dL_law_1381 hI.2.2.2.2.2.2.2.2.2 rfl (by omega) (jk_x (by omega) (by omega)) ?_
  refine sg_cE2 (pc := 1382) (d' := d - 1) (mc' := 0) (ms' := 0) 6 g dL_law_1382 cb_X5_digit ml_L_284 mn_X5_digit rfl mv_X5_digit (Nat.le_of_ble_eq_true rfl) (ck_oc hI.2.2.1) (Nat.le_of_ble_eq_true rfl) (by first | exact jl_d0 hd rfl | omega) (by first | exact Nat.le_of_ble_eq_true rfl | omega) (by first | exact Nat.le_of_ble_eq_true rfl | omega) ?_
  refine s_X5_digit (B := B) g (by first | exact jl_d1 hd rfl | omega) (fun v1 c1 => sg_K1 ?_)
  refine sg_pop (pc := 1385) dL_law_1385 rfl ?_
  refine sg_aload_n (pc := 1386) (j := 2) dL_law_1386 rfl rfl ?_
  refine sg_aload_n (pc := 1387) (j := 0) dL_law_1387 rfl rfl ?_
  refine sg_iload (pc := 1388) dL_law_1388 rfl ?_
  refine sg_iconst (pc := 1390) (z := 1) dL_law_1390 (by decide) ?_
  first | refine sg_iaddB (pc := 1391) dL_law_1391 (by omega) (by omega) ?_ | refine sg_iadd (pc := 1391) dL_law_1391 ?_
  refine sg_iald (pc := 1392) dL_law_1392 hI.2.2.2.2.2.2.2.2.2 rfl (by omega) (jk_x (by omega) (by omega)) ?_
  refine sg_aload_n (pc := 1393) (j := 0) dL_law_1393 rfl rfl ?_
  refine sg_iload (pc := 1394) dL_law_1394 rfl ?_
  refine sg_iconst (pc := 1396) (z := 2) dL_law_1396 (by decide) ?_
  first | refine sg_iaddB (pc := 1397) dL_law_1397 (by omega) (by omega) ?_ | refine sg_iadd (pc := 1397) dL_law_1397 ?_
  refine sg_iald (pc := 1398) dL_law_1398 hI.2.2.2.2.2.2.2.2.2 rfl (by omega) (jk_x (by omega) (by omega)) ?_
  refine st_as (fun H r => jk_tgR (B := B) r) ?_
  have m2 := jk_Im hI
  refine sg_cE2 (pc := 1399) (d' := d - 1) (mc' := 0) (ms' := 0) 8 g dL_law_1399 cb_X7_digit ml_L_287 mn_X7_digit rfl mv_X7_digit (Nat.le_of_ble_eq_true rfl) (md_oc m2) (Nat.le_of_ble_eq_true rfl) (by first | exact jl_d0 hd rfl | omega) (by first | exact Nat.le_of_ble_eq_true rfl | omega) (by first | exact Nat.le_of_ble_eq_true rfl | omega) ?_
  refine s_X7_digit g (by first | exact jl_d1 hd rfl | omega) m2 (fun v2 h2 c2_0 y2 => sg_K1 ?_)
  refine st_as (fun H r => jk_unR hI.1 r) ?_
  have I2 := jk_IM hI y2
  refine sg_pop (pc := 1402) dL_law_1402 rfl ?_
  refine sg_goto (pc := 1403) (tgt := 2465) dL_law_1403 (by decide) ?_
  refine sg_lsub (lv' := [(0, _), (1, _), (2, _), (3, _), (4, _)]) ⟨rfl, rfl, rfl, rfl, rfl, trivial⟩ ?_
  exact K _ _ _ I2 (by omega) (by omega)

set_option maxRecDepth 100000 in
set_option maxHeartbeats 1000000 in
theorem lw_c29 {w : sg_W} {Q : sg_O → sg_H → Prop} {h : sg_H} (g : sg_G w) (nc : jk_C w) (hJ : jz w) {d mc ms : Nat} (hd : 30 ≤ d) {B M O S j k n : Nat} {xs : List Int} (hI : jk_I w B M O S xs h) (hj : 6 * j + 6 ≤ xs.length) (hl : xs.length ≤ 3072) (hk : k + 1030 ≤ mc) (hn : n + (48 + 0) ≤ ms) (K : ∀ (h' : sg_H) (k' n' : Nat), jk_I w B M O S xs h' → k' ≤ k + 1030 → n' ≤ n + (48 + 0) → sg_R w mi_L_law d mc ms Q 2465 [(0, sg_r S), (1, sg_r B), (2, sg_r M), (3, sg_r O), (4, sg_i (6 * (j : Int)))] [] h' k' n') : sg_R w mi_L_law d mc ms Q 1406 [(0, sg_r S), (1, sg_r B), (2, sg_r M), (3, sg_r O), (4, sg_i (6 * (j : Int)))] [] h k n := by
  refine sg_aload_n (pc := 1406) (j := 1) dL_law_1406 rfl rfl ?_
  refine sg_aload_n (pc := 1407) (j := 0) dL_law_1407 rfl rfl ?_
  refine sg_iload (pc := 1408) dL_law_1408 rfl ?_
  refine sg_iconst (pc := 1410) (z := 1) dL_law_1410 (by decide) ?_
  first | refine sg_iaddB (pc := 1411) dL_law_1411 (by omega) (by omega) ?_ | refine sg_iadd (pc := 1411) dL_law_1411 ?_
  refine sg_iald (pc := 1412) dL_law_1412 hI.2.2.2.2.2.2.2.2.2 rfl (by omega) (jk_x (by omega) (by omega)) ?_
  refine sg_aload_n (pc := 1413) (j := 3) dL_law_1413 rfl rfl ?_
  refine st_cS3 (pc := 1414) (d' := d - 1) (mc' := 8) (ms' := 48) g dL_law_1414 cb_L_length cw_L_length ml_L_288 ms_L_length (Nat.le_of_ble_eq_true rfl) (by first | exact jl_d0 hd rfl | omega) (by first | exact Nat.le_of_ble_eq_true rfl | omega) (by first | exact Nat.le_of_ble_eq_true rfl | omega) ?_
  refine s_L_length g nc (by omega) hI (fun v1 h1 I1 X1 => sg_K1 ?_)
  refine sg_istore (pc := 1417) dL_law_1417 (by decide) ?_
  refine sg_aload_n (pc := 1419) (j := 2) dL_law_1419 rfl rfl ?_
  refine sg_aload_n (pc := 1420) (j := 0) dL_law_1420 rfl rfl ?_
  refine sg_iload (pc := 1421) dL_law_1421 rfl ?_
  refine sg_iconst (pc := 1423) (z := 1) dL_law_1423 (by decide) ?_
  first | refine sg_iaddB (pc := 1424) dL_law_1424 (by omega) (by omega) ?_ | refine sg_iadd (pc := 1424) dL_law_1424 ?_
  refine sg_iald (pc := 1425) dL_law_1425 I1.2.2.2.2.2.2.2.2.2 rfl (by omega) (jk_x (by omega) (by omega)) ?_
  refine st_as (fun H r => jk_tgR (B := B) r) ?_
  have m2 := jk_Im I1
  refine sg_cE1 (pc := 1426) (d' := d - 1) (mc' := 0) (ms' := 0) 8 g dL_law_1426 cb_X7_length ml_L_290 mn_X7_length rfl mv_X7_length (Nat.le_of_ble_eq_true rfl) (md_oc m2) (Nat.le_of_ble_eq_true rfl) (by first | exact jl_d0 hd rfl | omega) (by first | exact Nat.le_of_ble_eq_true rfl | omega) (by first | exact Nat.le_of_ble_eq_true rfl | omega) ?_
  refine s_X7_length g (by first | exact jl_d1 hd rfl | omega) m2 (fun v2 h2  y2 => sg_K1 ?_)
  refine st_as (fun H r => jk_unR I1.1 r) ?_
  have I2 := jk_IM I1 y2
  refine sg_istore (pc := 1429) dL_law_1429 (by decide) ?_
  refine sg_goto (pc := 1431) (tgt := 2465) dL_law_1431 (by decide) ?_
  refine sg_lsub (lv' := [(0, _), (1, _), (2, _), (3, _), (4, _)]) ⟨rfl, rfl, rfl, rfl, rfl, trivial⟩ ?_
  exact K _ _ _ I2 (by omega) (by omega)

set_option maxRecDepth 100000 in
set_option maxHeartbeats 1000000 in
theorem lw_c30 {w : sg_W} {Q : sg_O → sg_H → Prop} {h : sg_H} (g : sg_G w) (nc : jk_C w) (hJ : jz w) {d mc ms : Nat} (hd : 30 ≤ d) {B M O S j k n : Nat} {xs : List Int} (hI : jk_I w B M O S xs h) (hj : 6 * j + 6 ≤ xs.length) (hl : xs.length ≤ 3072) (hk : k + 1030 ≤ mc) (hn : n + (48 + 0) ≤ ms) (K : ∀ (h' : sg_H) (k' n' : Nat), jk_I w B M O S xs h' → k' ≤ k + 1030 → n' ≤ n + (48 + 0) → sg_R w mi_L_law d mc ms Q 2465 [(0, sg_r S), (1, sg_r B), (2, sg_r M), (3, sg_r O), (4, sg_i (6 * (j : Int)))] [] h' k' n') : sg_R w mi_L_law d mc ms Q 1434 [(0, sg_r S), (1, sg_r B), (2, sg_r M), (3, sg_r O), (4, sg_i (6 * (j : Int)))] [] h k n := by
  refine sg_aload_n (pc := 1434) (j := 1) dL_law_1434 rfl rfl ?_
  refine sg_aload_n (pc := 1435) (j := 0) dL_law_1435 rfl rfl ?_
  refine sg_iload (pc := 1436) dL_law_1436 rfl ?_
  refine sg_iconst (pc := 1438) (z := 1) dL_law_1438 (by decide) ?_
  first | refine sg_iaddB (pc := 1439) dL_law_1439 (by omega) (by omega) ?_ | refine sg_iadd (pc := 1439) dL_law_1439 ?_
  refine sg_iald (pc := 1440) dL_law_1440 hI.2.2.2.2.2.2.2.2.2 rfl (by omega) (jk_x (by omega) (by omega)) ?_
  refine sg_aload_n (pc := 1441) (j := 0) dL_law_1441 rfl rfl ?_
  refine sg_iload (pc := 1442) dL_law_1442 rfl ?_
  refine sg_iconst (pc := 1444) (z := 2) dL_law_1444 (by decide) ?_
  first | refine sg_iaddB (pc := 1445) dL_law_1445 (by omega) (by omega) ?_ | refine sg_iadd (pc := 1445) dL_law_1445 ?_
  refine sg_iald (pc := 1446) dL_law_1446 hI.2.2.2.2.2.2.2.2.2 rfl (by omega) (jk_x (by omega) (by omega)) ?_
  refine sg_aload_n (pc := 1447) (j := 3) dL_law_1447 rfl rfl ?_
  refine st_cS4 (pc := 1448) (d' := d - 1) (mc' := 8) (ms' := 48) g dL_law_1448 cb_L_at cw_L_at ml_L_291 ms_L_at (Nat.le_of_ble_eq_true rfl) (by first | exact jl_d0 hd rfl | omega) (by first | exact Nat.le_of_ble_eq_true rfl | omega) (by first | exact Nat.le_of_ble_eq_true rfl | omega) ?_
  refine s_L_at g nc (by omega) hI (fun v1 h1 I1 X1 => sg_K1 ?_)
  refine sg_istore (pc := 1451) dL_law_1451 (by decide) ?_
  refine sg_aload_n (pc := 1453) (j := 2) dL_law_1453 rfl rfl ?_
  refine sg_aload_n (pc := 1454) (j := 0) dL_law_1454 rfl rfl ?_
  refine sg_iload (pc := 1455) dL_law_1455 rfl ?_
  refine sg_iconst (pc := 1457) (z := 1) dL_law_1457 (by decide) ?_
  first | refine sg_iaddB (pc := 1458) dL_law_1458 (by omega) (by omega) ?_ | refine sg_iadd (pc := 1458) dL_law_1458 ?_
  refine sg_iald (pc := 1459) dL_law_1459 I1.2.2.2.2.2.2.2.2.2 rfl (by omega) (jk_x (by omega) (by omega)) ?_
  refine sg_aload_n (pc := 1460) (j := 0) dL_law_1460 rfl rfl ?_
  refine sg_iload (pc := 1461) dL_law_1461 rfl ?_
  refine sg_iconst (pc := 1463) (z := 2) dL_law_1463 (by decide) ?_
  first | refine sg_iaddB (pc := 1464) dL_law_1464 (by omega) (by omega) ?_ | refine sg_iadd (pc := 1464) dL_law_1464 ?_
  refine sg_iald (pc := 1465) dL_law_1465 I1.2.2.2.2.2.2.2.2.2 rfl (by omega) (jk_x (by omega) (by omega)) ?_
  refine st_as (fun H r => jk_tgR (B := B) r) ?_
  have m2 := jk_Im I1
  refine sg_cE2 (pc := 1466) (d' := d - 1) (mc' := 0) (ms' := 0) 8 g dL_law_1466 cb_X7_at ml_L_293 mn_X7_at rfl mv_X7_at (Nat.le_of_ble_eq_true rfl) (md_oc m2) (Nat.le_of_ble_eq_true rfl) (by first | exact jl_d0 hd rfl | omega) (by first | exact Nat.le_of_ble_eq_true rfl | omega) (by first | exact Nat.le_of_ble_eq_true rfl | omega) ?_
  refine s_X7_at g (by first | exact jl_d1 hd rfl | omega) m2 (fun v2 h2  y2 => sg_K1 ?_)
  refine st_as (fun H r => jk_unR I1.1 r) ?_
  have I2 := jk_IM I1 y2
  refine sg_istore (pc := 1469) dL_law_1469 (by decide) ?_
  refine sg_goto (pc := 1471) (tgt := 2465) dL_law_1471 (by decide) ?_
  refine sg_lsub (lv' := [(0, _), (1, _), (2, _), (3, _), (4, _)]) ⟨rfl, rfl, rfl, rfl, rfl, trivial⟩ ?_
  exact K _ _ _ I2 (by omega) (by omega)

set_option maxRecDepth 100000 in
set_option maxHeartbeats 1000000 in
theorem lw_c31 {w : sg_W} {Q : sg_O → sg_H → Prop} {h : sg_H} (g : sg_G w) (nc : jk_C w) (hJ : jz w) {d mc ms : Nat} (hd : 30 ≤ d) {B M O S j k n : Nat} {xs : List Int} (hI : jk_I w B M O S xs h) (hj : 6 * j + 6 ≤ xs.length) (hl : xs.length ≤ 3072) (hk : k + 1030 ≤ mc) (hn : n + (48 + 0) ≤ ms) (K : ∀ (h' : sg_H) (k' n' : Nat), jk_I w B M O S xs h' → k' ≤ k + 1030 → n' ≤ n + (48 + 0) → sg_R w mi_L_law d mc ms Q 2465 [(0, sg_r S), (1, sg_r B), (2, sg_r M), (3, sg_r O), (4, sg_i (6 * (j : Int)))] [] h' k' n') : sg_R w mi_L_law d mc ms Q 1474 [(0, sg_r S), (1, sg_r B), (2, sg_r M), (3, sg_r O), (4, sg_i (6 * (j : Int)))] [] h k n := by
  refine sg_aload_n (pc := 1474) (j := 1) dL_law_1474 rfl rfl ?_
  refine sg_aload_n (pc := 1475) (j := 0) dL_law_1475 rfl rfl ?_
  refine sg_iload (pc := 1476) dL_law_1476 rfl ?_
  refine sg_iconst (pc := 1478) (z := 1) dL_law_1478 (by decide) ?_
  first | refine sg_iaddB (pc := 1479) dL_law_1479 (by omega) (by omega) ?_ | refine sg_iadd (pc := 1479) dL_law_1479 ?_
  refine sg_iald (pc := 1480) dL_law_1480 hI.2.2.2.2.2.2.2.2.2 rfl (by omega) (jk_x (by omega) (by omega)) ?_
  refine sg_aload_n (pc := 1481) (j := 0) dL_law_1481 rfl rfl ?_
  refine sg_iload (pc := 1482) dL_law_1482 rfl ?_
  refine sg_iconst (pc := 1484) (z := 2) dL_law_1484 (by decide) ?_
  first | refine sg_iaddB (pc := 1485) dL_law_1485 (by omega) (by omega) ?_ | refine sg_iadd (pc := 1485) dL_law_1485 ?_
  refine sg_iald (pc := 1486) dL_law_1486 hI.2.2.2.2.2.2.2.2.2 rfl (by omega) (jk_x (by omega) (by omega)) ?_
  refine sg_aload_n (pc := 1487) (j := 3) dL_law_1487 rfl rfl ?_
  refine st_cS4 (pc := 1488) (d' := d - 1) (mc' := 8) (ms' := 48) g dL_law_1488 cb_L_count cw_L_count ml_L_294 ms_L_count (Nat.le_of_ble_eq_true rfl) (by first | exact jl_d0 hd rfl | omega) (by first | exact Nat.le_of_ble_eq_true rfl | omega) (by first | exact Nat.le_of_ble_eq_true rfl | omega) ?_
  refine s_L_count g nc (by omega) hI (fun v1 h1 I1 X1 => sg_K1 ?_)
  refine sg_istore (pc := 1491) dL_law_1491 (by decide) ?_
  refine sg_aload_n (pc := 1493) (j := 2) dL_law_1493 rfl rfl ?_
  refine sg_aload_n (pc := 1494) (j := 0) dL_law_1494 rfl rfl ?_
  refine sg_iload (pc := 1495) dL_law_1495 rfl ?_
  refine sg_iconst (pc := 1497) (z := 1) dL_law_1497 (by decide) ?_
  first | refine sg_iaddB (pc := 1498) dL_law_1498 (by omega) (by omega) ?_ | refine sg_iadd (pc := 1498) dL_law_1498 ?_
  refine sg_iald (pc := 1499) dL_law_1499 I1.2.2.2.2.2.2.2.2.2 rfl (by omega) (jk_x (by omega) (by omega)) ?_
  refine sg_aload_n (pc := 1500) (j := 0) dL_law_1500 rfl rfl ?_
  refine sg_iload (pc := 1501) dL_law_1501 rfl ?_
  refine sg_iconst (pc := 1503) (z := 2) dL_law_1503 (by decide) ?_
  first | refine sg_iaddB (pc := 1504) dL_law_1504 (by omega) (by omega) ?_ | refine sg_iadd (pc := 1504) dL_law_1504 ?_
  refine sg_iald (pc := 1505) dL_law_1505 I1.2.2.2.2.2.2.2.2.2 rfl (by omega) (jk_x (by omega) (by omega)) ?_
  refine st_as (fun H r => jk_tgR (B := B) r) ?_
  have m2 := jk_Im I1
  refine sg_cE2 (pc := 1506) (d' := d - 1) (mc' := 0) (ms' := 0) 8 g dL_law_1506 cb_X7_count ml_L_296 mn_X7_count rfl mv_X7_count (Nat.le_of_ble_eq_true rfl) (md_oc m2) (Nat.le_of_ble_eq_true rfl) (by first | exact jl_d0 hd rfl | omega) (by first | exact Nat.le_of_ble_eq_true rfl | omega) (by first | exact Nat.le_of_ble_eq_true rfl | omega) ?_
  refine s_X7_count g (by first | exact jl_d1 hd rfl | omega) m2 (fun v2 h2  y2 => sg_K1 ?_)
  refine st_as (fun H r => jk_unR I1.1 r) ?_
  have I2 := jk_IM I1 y2
  refine sg_istore (pc := 1509) dL_law_1509 (by decide) ?_
  refine sg_goto (pc := 1511) (tgt := 2465) dL_law_1511 (by decide) ?_
  refine sg_lsub (lv' := [(0, _), (1, _), (2, _), (3, _), (4, _)]) ⟨rfl, rfl, rfl, rfl, rfl, trivial⟩ ?_
  exact K _ _ _ I2 (by omega) (by omega)

set_option maxRecDepth 100000 in
set_option maxHeartbeats 1000000 in
theorem lw_c32 {w : sg_W} {Q : sg_O → sg_H → Prop} {h : sg_H} (g : sg_G w) (nc : jk_C w) (hJ : jz w) {d mc ms : Nat} (hd : 30 ≤ d) {B M O S j k n : Nat} {xs : List Int} (hI : jk_I w B M O S xs h) (hj : 6 * j + 6 ≤ xs.length) (hl : xs.length ≤ 3072) (hk : k + 1030 ≤ mc) (hn : n + (48 + 0) ≤ ms) (K : ∀ (h' : sg_H) (k' n' : Nat), jk_I w B M O S xs h' → k' ≤ k + 1030 → n' ≤ n + (48 + 0) → sg_R w mi_L_law d mc ms Q 2465 [(0, sg_r S), (1, sg_r B), (2, sg_r M), (3, sg_r O), (4, sg_i (6 * (j : Int)))] [] h' k' n') : sg_R w mi_L_law d mc ms Q 1514 [(0, sg_r S), (1, sg_r B), (2, sg_r M), (3, sg_r O), (4, sg_i (6 * (j : Int)))] [] h k n := by
  refine sg_aload_n (pc := 1514) (j := 1) dL_law_1514 rfl rfl ?_
  refine sg_aload_n (pc := 1515) (j := 0) dL_law_1515 rfl rfl ?_
  refine sg_iload (pc := 1516) dL_law_1516 rfl ?_
  refine sg_iconst (pc := 1518) (z := 1) dL_law_1518 (by decide) ?_
  first | refine sg_iaddB (pc := 1519) dL_law_1519 (by omega) (by omega) ?_ | refine sg_iadd (pc := 1519) dL_law_1519 ?_
  refine sg_iald (pc := 1520) dL_law_1520 hI.2.2.2.2.2.2.2.2.2 rfl (by omega) (jk_x (by omega) (by omega)) ?_
  refine sg_aload_n (pc := 1521) (j := 0) dL_law_1521 rfl rfl ?_
  refine sg_iload (pc := 1522) dL_law_1522 rfl ?_
  refine sg_iconst (pc := 1524) (z := 2) dL_law_1524 (by decide) ?_
  first | refine sg_iaddB (pc := 1525) dL_law_1525 (by omega) (by omega) ?_ | refine sg_iadd (pc := 1525) dL_law_1525 ?_
  refine sg_iald (pc := 1526) dL_law_1526 hI.2.2.2.2.2.2.2.2.2 rfl (by omega) (jk_x (by omega) (by omega)) ?_
  refine sg_aload_n (pc := 1527) (j := 0) dL_law_1527 rfl rfl ?_
  refine sg_iload (pc := 1528) dL_law_1528 rfl ?_
  refine sg_iconst (pc := 1530) (z := 3) dL_law_1530 (by decide) ?_
  first | refine sg_iaddB (pc := 1531) dL_law_1531 (by omega) (by omega) ?_ | refine sg_iadd (pc := 1531) dL_law_1531 ?_
  refine sg_iald (pc := 1532) dL_law_1532 hI.2.2.2.2.2.2.2.2.2 rfl (by omega) (jk_x (by omega) (by omega)) ?_
  refine sg_aload_n (pc := 1533) (j := 3) dL_law_1533 rfl rfl ?_
  refine st_cS5 (pc := 1534) (d' := d - 1) (mc' := 8) (ms' := 48) g dL_law_1534 cb_L_first cw_L_first ml_L_297 ms_L_first (Nat.le_of_ble_eq_true rfl) (by first | exact jl_d0 hd rfl | omega) (by first | exact Nat.le_of_ble_eq_true rfl | omega) (by first | exact Nat.le_of_ble_eq_true rfl | omega) ?_
  refine s_L_first g nc (by omega) hI (fun v1 h1 I1 X1 => sg_K1 ?_)
  refine sg_istore (pc := 1537) dL_law_1537 (by decide) ?_
  refine sg_aload_n (pc := 1539) (j := 2) dL_law_1539 rfl rfl ?_
  refine sg_aload_n (pc := 1540) (j := 0) dL_law_1540 rfl rfl ?_
  refine sg_iload (pc := 1541) dL_law_1541 rfl ?_
  refine sg_iconst (pc := 1543) (z := 1) dL_law_1543 (by decide) ?_
  first | refine sg_iaddB (pc := 1544) dL_law_1544 (by omega) (by omega) ?_ | refine sg_iadd (pc := 1544) dL_law_1544 ?_
  refine sg_iald (pc := 1545) dL_law_1545 I1.2.2.2.2.2.2.2.2.2 rfl (by omega) (jk_x (by omega) (by omega)) ?_
  refine sg_aload_n (pc := 1546) (j := 0) dL_law_1546 rfl rfl ?_
  refine sg_iload (pc := 1547) dL_law_1547 rfl ?_
  refine sg_iconst (pc := 1549) (z := 2) dL_law_1549 (by decide) ?_
  first | refine sg_iaddB (pc := 1550) dL_law_1550 (by omega) (by omega) ?_ | refine sg_iadd (pc := 1550) dL_law_1550 ?_
  refine sg_iald (pc := 1551) dL_law_1551 I1.2.2.2.2.2.2.2.2.2 rfl (by omega) (jk_x (by omega) (by omega)) ?_
  refine sg_aload_n (pc := 1552) (j := 0) dL_law_1552 rfl rfl ?_
  refine sg_iload (pc := 1553) dL_law_1553 rfl ?_
  refine sg_iconst (pc := 1555) (z := 3) dL_law_1555 (by decide) ?_
  first | refine sg_iaddB (pc := 1556) dL_law_1556 (by omega) (by omega) ?_ | refine sg_iadd (pc := 1556) dL_law_1556 ?_
  refine sg_iald (pc := 1557) dL_law_1557 I1.2.2.2.2.2.2.2.2.2 rfl (by omega) (jk_x (by omega) (by omega)) ?_
  refine st_as (fun H r => jk_tgR (B := B) r) ?_
  have m2 := jk_Im I1
  refine sg_cE3 (pc := 1558) (d' := d - 1) (mc' := 0) (ms' := 0) 8 g dL_law_1558 cb_X7_first ml_L_299 mn_X7_first rfl mv_X7_first (Nat.le_of_ble_eq_true rfl) (md_oc m2) (Nat.le_of_ble_eq_true rfl) (by first | exact jl_d0 hd rfl | omega) (by first | exact Nat.le_of_ble_eq_true rfl | omega) (by first | exact Nat.le_of_ble_eq_true rfl | omega) ?_
  refine s_X7_first g (by first | exact jl_d1 hd rfl | omega) m2 (fun v2 h2  y2 => sg_K1 ?_)
  refine st_as (fun H r => jk_unR I1.1 r) ?_
  have I2 := jk_IM I1 y2
  refine sg_istore (pc := 1561) dL_law_1561 (by decide) ?_
  refine sg_goto (pc := 1563) (tgt := 2465) dL_law_1563 (by decide) ?_
  refine sg_lsub (lv' := [(0, _), (1, _), (2, _), (3, _), (4, _)]) ⟨rfl, rfl, rfl, rfl, rfl, trivial⟩ ?_
  exact K _ _ _ I2 (by omega) (by omega)

set_option maxRecDepth 100000 in
set_option maxHeartbeats 1000000 in
theorem lw_c33 {w : sg_W} {Q : sg_O → sg_H → Prop} {h : sg_H} (g : sg_G w) (nc : jk_C w) (hJ : jz w) {d mc ms : Nat} (hd : 30 ≤ d) {B M O S j k n : Nat} {xs : List Int} (hI : jk_I w B M O S xs h) (hj : 6 * j + 6 ≤ xs.length) (hl : xs.length ≤ 3072) (hk : k + 1030 ≤ mc) (hn : n + (48 + 0) ≤ ms) (K : ∀ (h' : sg_H) (k' n' : Nat), jk_I w B M O S xs h' → k' ≤ k + 1030 → n' ≤ n + (48 + 0) → sg_R w mi_L_law d mc ms Q 2465 [(0, sg_r S), (1, sg_r B), (2, sg_r M), (3, sg_r O), (4, sg_i (6 * (j : Int)))] [] h' k' n') : sg_R w mi_L_law d mc ms Q 1566 [(0, sg_r S), (1, sg_r B), (2, sg_r M), (3, sg_r O), (4, sg_i (6 * (j : Int)))] [] h k n := by
  refine sg_aload_n (pc := 1566) (j := 1) dL_law_1566 rfl rfl ?_
  refine sg_aload_n (pc := 1567) (j := 0) dL_law_1567 rfl rfl ?_
  refine sg_iload (pc := 1568) dL_law_1568 rfl ?_
  refine sg_iconst (pc := 1570) (z := 1) dL_law_1570 (by decide) ?_
  first | refine sg_iaddB (pc := 1571) dL_law_1571 (by omega) (by omega) ?_ | refine sg_iadd (pc := 1571) dL_law_1571 ?_
  refine sg_iald (pc := 1572) dL_law_1572 hI.2.2.2.2.2.2.2.2.2 rfl (by omega) (jk_x (by omega) (by omega)) ?_
  refine sg_aload_n (pc := 1573) (j := 0) dL_law_1573 rfl rfl ?_
  refine sg_iload (pc := 1574) dL_law_1574 rfl ?_
  refine sg_iconst (pc := 1576) (z := 2) dL_law_1576 (by decide) ?_
  first | refine sg_iaddB (pc := 1577) dL_law_1577 (by omega) (by omega) ?_ | refine sg_iadd (pc := 1577) dL_law_1577 ?_
  refine sg_iald (pc := 1578) dL_law_1578 hI.2.2.2.2.2.2.2.2.2 rfl (by omega) (jk_x (by omega) (by omega)) ?_
  refine sg_aload_n (pc := 1579) (j := 3) dL_law_1579 rfl rfl ?_
  refine st_cS4 (pc := 1580) (d' := d - 1) (mc' := 8) (ms' := 48) g dL_law_1580 cb_L_last cw_L_last ml_L_300 ms_L_last (Nat.le_of_ble_eq_true rfl) (by first | exact jl_d0 hd rfl | omega) (by first | exact Nat.le_of_ble_eq_true rfl | omega) (by first | exact Nat.le_of_ble_eq_true rfl | omega) ?_
  refine s_L_last g nc (by omega) hI (fun v1 h1 I1 X1 => sg_K1 ?_)
  refine sg_istore (pc := 1583) dL_law_1583 (by decide) ?_
  refine sg_aload_n (pc := 1585) (j := 2) dL_law_1585 rfl rfl ?_
  refine sg_aload_n (pc := 1586) (j := 0) dL_law_1586 rfl rfl ?_
  refine sg_iload (pc := 1587) dL_law_1587 rfl ?_
  refine sg_iconst (pc := 1589) (z := 1) dL_law_1589 (by decide) ?_
  first | refine sg_iaddB (pc := 1590) dL_law_1590 (by omega) (by omega) ?_ | refine sg_iadd (pc := 1590) dL_law_1590 ?_
  refine sg_iald (pc := 1591) dL_law_1591 I1.2.2.2.2.2.2.2.2.2 rfl (by omega) (jk_x (by omega) (by omega)) ?_
  refine sg_aload_n (pc := 1592) (j := 0) dL_law_1592 rfl rfl ?_
  refine sg_iload (pc := 1593) dL_law_1593 rfl ?_
  refine sg_iconst (pc := 1595) (z := 2) dL_law_1595 (by decide) ?_
  first | refine sg_iaddB (pc := 1596) dL_law_1596 (by omega) (by omega) ?_ | refine sg_iadd (pc := 1596) dL_law_1596 ?_
  refine sg_iald (pc := 1597) dL_law_1597 I1.2.2.2.2.2.2.2.2.2 rfl (by omega) (jk_x (by omega) (by omega)) ?_
  refine st_as (fun H r => jk_tgR (B := B) r) ?_
  have m2 := jk_Im I1
  refine sg_cE2 (pc := 1598) (d' := d - 1) (mc' := 0) (ms' := 0) 8 g dL_law_1598 cb_X7_last ml_L_302 mn_X7_last rfl mv_X7_last (Nat.le_of_ble_eq_true rfl) (md_oc m2) (Nat.le_of_ble_eq_true rfl) (by first | exact jl_d0 hd rfl | omega) (by first | exact Nat.le_of_ble_eq_true rfl | omega) (by first | exact Nat.le_of_ble_eq_true rfl | omega) ?_
  refine s_X7_last g (by first | exact jl_d1 hd rfl | omega) m2 (fun v2 h2  y2 => sg_K1 ?_)
  refine st_as (fun H r => jk_unR I1.1 r) ?_
  have I2 := jk_IM I1 y2
  refine sg_istore (pc := 1601) dL_law_1601 (by decide) ?_
  refine sg_goto (pc := 1603) (tgt := 2465) dL_law_1603 (by decide) ?_
  refine sg_lsub (lv' := [(0, _), (1, _), (2, _), (3, _), (4, _)]) ⟨rfl, rfl, rfl, rfl, rfl, trivial⟩ ?_
  exact K _ _ _ I2 (by omega) (by omega)

set_option maxRecDepth 100000 in
set_option maxHeartbeats 1000000 in
theorem lw_c34 {w : sg_W} {Q : sg_O → sg_H → Prop} {h : sg_H} (g : sg_G w) (nc : jk_C w) (hJ : jz w) {d mc ms : Nat} (hd : 30 ≤ d) {B M O S j k n : Nat} {xs : List Int} (hI : jk_I w B M O S xs h) (hj : 6 * j + 6 ≤ xs.length) (hl : xs.length ≤ 3072) (hk : k + 1030 ≤ mc) (hn : n + (168 + 3061) ≤ ms) (K : ∀ (h' : sg_H) (k' n' : Nat), jk_I w B M O S xs h' → k' ≤ k + 1030 → n' ≤ n + (168 + 3061) → sg_R w mi_L_law d mc ms Q 2465 [(0, sg_r S), (1, sg_r B), (2, sg_r M), (3, sg_r O), (4, sg_i (6 * (j : Int)))] [] h' k' n') : sg_R w mi_L_law d mc ms Q 1606 [(0, sg_r S), (1, sg_r B), (2, sg_r M), (3, sg_r O), (4, sg_i (6 * (j : Int)))] [] h k n := by
  refine sg_aload_n (pc := 1606) (j := 1) dL_law_1606 rfl rfl ?_
  refine sg_aload_n (pc := 1607) (j := 0) dL_law_1607 rfl rfl ?_
  refine sg_iload (pc := 1608) dL_law_1608 rfl ?_
  refine sg_iconst (pc := 1610) (z := 1) dL_law_1610 (by decide) ?_
  first | refine sg_iaddB (pc := 1611) dL_law_1611 (by omega) (by omega) ?_ | refine sg_iadd (pc := 1611) dL_law_1611 ?_
  refine sg_iald (pc := 1612) dL_law_1612 hI.2.2.2.2.2.2.2.2.2 rfl (by omega) (jk_x (by omega) (by omega)) ?_
  refine sg_aload_n (pc := 1613) (j := 3) dL_law_1613 rfl rfl ?_
  refine st_cS3 (pc := 1614) (d' := d - 1) (mc' := 6) (ms' := 168) g dL_law_1614 cb_L_forms cw_L_forms ml_L_303 ms_L_forms (Nat.le_of_ble_eq_true rfl) (by first | exact jl_d0 hd rfl | omega) (by first | exact Nat.le_of_ble_eq_true rfl | omega) (by first | exact Nat.le_of_ble_eq_true rfl | omega) ?_
  refine s_L_forms g nc hJ (by omega) hI (fun v1 h1 I1 X1 => sg_K1 ?_)
  refine sg_istore (pc := 1617) dL_law_1617 (by decide) ?_
  refine sg_aload_n (pc := 1619) (j := 2) dL_law_1619 rfl rfl ?_
  refine sg_aload_n (pc := 1620) (j := 0) dL_law_1620 rfl rfl ?_
  refine sg_iload (pc := 1621) dL_law_1621 rfl ?_
  refine sg_iconst (pc := 1623) (z := 1) dL_law_1623 (by decide) ?_
  first | refine sg_iaddB (pc := 1624) dL_law_1624 (by omega) (by omega) ?_ | refine sg_iadd (pc := 1624) dL_law_1624 ?_
  refine sg_iald (pc := 1625) dL_law_1625 I1.2.2.2.2.2.2.2.2.2 rfl (by omega) (jk_x (by omega) (by omega)) ?_
  refine st_as (fun H r => jk_tgR (B := B) r) ?_
  have m2 := jk_Im I1
  refine sg_cE1 (pc := 1626) (d' := d - 1) (mc' := 240) (ms' := 3061) 8 g dL_law_1626 cb_X7_forms ml_L_305 mn_X7_forms rfl mv_X7_forms (Nat.le_of_ble_eq_true rfl) (md_oc m2) (Nat.le_of_ble_eq_true rfl) (by first | exact jl_d0 hd rfl | omega) (by first | exact Nat.le_of_ble_eq_true rfl | omega) (by first | exact Nat.le_of_ble_eq_true rfl | omega) ?_
  have q40 := jf40
  rw [← jf40]
  refine s_X7_forms g (by first | exact jl_d1 hd rfl | omega) m2 (fun v2 h2  y2 => sg_K1 ?_)
  refine st_as (fun H r => jk_unR I1.1 r) ?_
  have I2 := jk_IM I1 y2
  refine sg_astore (pc := 1629) dL_law_1629 (by decide) ?_
  refine sg_goto (pc := 1631) (tgt := 2465) dL_law_1631 (by decide) ?_
  refine sg_lsub (lv' := [(0, _), (1, _), (2, _), (3, _), (4, _)]) ⟨rfl, rfl, rfl, rfl, rfl, trivial⟩ ?_
  exact K _ _ _ I2 (by omega) (by omega)

set_option maxRecDepth 100000 in
set_option maxHeartbeats 1000000 in
theorem lw_c35 {w : sg_W} {Q : sg_O → sg_H → Prop} {h : sg_H} (g : sg_G w) (nc : jk_C w) (hJ : jz w) {d mc ms : Nat} (hd : 30 ≤ d) {B M O S j k n : Nat} {xs : List Int} (hI : jk_I w B M O S xs h) (hj : 6 * j + 6 ≤ xs.length) (hl : xs.length ≤ 3072) {K0 : Nat} (hK : ∀ row : Int, (0 ≤ row ∧ row < 4) → md_n (jk_cut B h) (md_a (jk_cut B h) (md_r (jk_cut B h) M) row) ≤ K0) (hK2 : K0 ≤ 40) (hk : k + 1030 ≤ mc) (hn : n + (350 + (2 * K0 + jf (2 * K0))) ≤ ms) (K : ∀ (h' : sg_H) (k' n' : Nat), jk_I w B M O S xs h' → k' ≤ k + 1030 → n' ≤ n + (350 + (2 * K0 + jf (2 * K0))) → sg_R w mi_L_law d mc ms Q 2465 [(0, sg_r S), (1, sg_r B), (2, sg_r M), (3, sg_r O), (4, sg_i (6 * (j : Int)))] [] h' k' n') : sg_R w mi_L_law d mc ms Q 1634 [(0, sg_r S), (1, sg_r B), (2, sg_r M), (3, sg_r O), (4, sg_i (6 * (j : Int)))] [] h k n := by
  refine sg_aload_n (pc := 1634) (j := 1) dL_law_1634 rfl rfl ?_
  refine sg_aload_n (pc := 1635) (j := 0) dL_law_1635 rfl rfl ?_
  refine sg_iload (pc := 1636) dL_law_1636 rfl ?_
  refine sg_iconst (pc := 1638) (z := 1) dL_law_1638 (by decide) ?_
  first | refine sg_iaddB (pc := 1639) dL_law_1639 (by omega) (by omega) ?_ | refine sg_iadd (pc := 1639) dL_law_1639 ?_
  refine sg_iald (pc := 1640) dL_law_1640 hI.2.2.2.2.2.2.2.2.2 rfl (by omega) (jk_x (by omega) (by omega)) ?_
  refine sg_aload_n (pc := 1641) (j := 3) dL_law_1641 rfl rfl ?_
  refine st_cS3 (pc := 1642) (d' := d - 1) (mc' := 7) (ms' := 350) g dL_law_1642 cb_L_spelled cw_L_spelled ml_L_306 ms_L_spelled (Nat.le_of_ble_eq_true rfl) (by first | exact jl_d0 hd rfl | omega) (by first | exact Nat.le_of_ble_eq_true rfl | omega) (by first | exact Nat.le_of_ble_eq_true rfl | omega) ?_
  refine s_L_spelled g nc hJ (by omega) hI (fun v1 h1 I1 X1 => sg_K1 ?_)
  refine sg_istore (pc := 1645) dL_law_1645 (by decide) ?_
  refine sg_aload_n (pc := 1647) (j := 2) dL_law_1647 rfl rfl ?_
  refine sg_aload_n (pc := 1648) (j := 0) dL_law_1648 rfl rfl ?_
  refine sg_iload (pc := 1649) dL_law_1649 rfl ?_
  refine sg_iconst (pc := 1651) (z := 1) dL_law_1651 (by decide) ?_
  first | refine sg_iaddB (pc := 1652) dL_law_1652 (by omega) (by omega) ?_ | refine sg_iadd (pc := 1652) dL_law_1652 ?_
  refine sg_iald (pc := 1653) dL_law_1653 I1.2.2.2.2.2.2.2.2.2 rfl (by omega) (jk_x (by omega) (by omega)) ?_
  refine st_as (fun H r => jk_tgR (B := B) r) ?_
  have m2 := jk_Im I1
  refine sg_cE1 (pc := 1654) (d' := d - 1) (mc' := (1 + 12 * K0)) (ms' := (2 * K0 + jf (2 * K0))) 8 g dL_law_1654 cb_X7_spelled ml_L_308 mn_X7_spelled rfl mv_X7_spelled (Nat.le_of_ble_eq_true rfl) (md_oc m2) (Nat.le_of_ble_eq_true rfl) (by first | exact jl_d0 hd rfl | omega) (by first | exact Nat.le_of_ble_eq_true rfl | omega) (by first | exact Nat.le_of_ble_eq_true rfl | omega) ?_
  have hK1 : ∀ row : Int, (0 ≤ row ∧ row < 4) → md_n (jk_tag B h1) (md_a (jk_tag B h1) (md_r (jk_tag B h1) M) row) ≤ K0 := fun row hr => by
    rw [md_SX I1.2.2.2.1 jk_cutX hr.1 (by omega), md_SX hI.2.2.2.1 X1 hr.1 (by omega)]
    exact hK row hr
  refine s_X7_spelled g (by first | exact jl_d1 hd rfl | omega) (hK1 _) hK2 m2 (fun v2 h2  y2 => sg_K1 ?_)
  refine st_as (fun H r => jk_unR I1.1 r) ?_
  have I2 := jk_IM I1 y2
  refine sg_astore (pc := 1657) dL_law_1657 (by decide) ?_
  refine sg_goto (pc := 1659) (tgt := 2465) dL_law_1659 (by decide) ?_
  refine sg_lsub (lv' := [(0, _), (1, _), (2, _), (3, _), (4, _)]) ⟨rfl, rfl, rfl, rfl, rfl, trivial⟩ ?_
  exact K _ _ _ I2 (by omega) (by omega)

set_option maxRecDepth 100000 in
set_option maxHeartbeats 1000000 in
theorem lw_c36 {w : sg_W} {Q : sg_O → sg_H → Prop} {h : sg_H} (g : sg_G w) (nc : jk_C w) (hJ : jz w) {d mc ms : Nat} (hd : 30 ≤ d) {B M O S j k n : Nat} {xs : List Int} (hI : jk_I w B M O S xs h) (hj : 6 * j + 6 ≤ xs.length) (hl : xs.length ≤ 3072) (hk : k + 1030 ≤ mc) (hn : n + (48 + 0) ≤ ms) (K : ∀ (h' : sg_H) (k' n' : Nat), jk_I w B M O S xs h' → k' ≤ k + 1030 → n' ≤ n + (48 + 0) → sg_R w mi_L_law d mc ms Q 2465 [(0, sg_r S), (1, sg_r B), (2, sg_r M), (3, sg_r O), (4, sg_i (6 * (j : Int)))] [] h' k' n') : sg_R w mi_L_law d mc ms Q 1662 [(0, sg_r S), (1, sg_r B), (2, sg_r M), (3, sg_r O), (4, sg_i (6 * (j : Int)))] [] h k n := by
  refine sg_aload_n (pc := 1662) (j := 1) dL_law_1662 rfl rfl ?_
  refine sg_aload_n (pc := 1663) (j := 0) dL_law_1663 rfl rfl ?_
  refine sg_iload (pc := 1664) dL_law_1664 rfl ?_
  refine sg_iconst (pc := 1666) (z := 1) dL_law_1666 (by decide) ?_
  first | refine sg_iaddB (pc := 1667) dL_law_1667 (by omega) (by omega) ?_ | refine sg_iadd (pc := 1667) dL_law_1667 ?_
  refine sg_iald (pc := 1668) dL_law_1668 hI.2.2.2.2.2.2.2.2.2 rfl (by omega) (jk_x (by omega) (by omega)) ?_
  refine sg_aload_n (pc := 1669) (j := 0) dL_law_1669 rfl rfl ?_
  refine sg_iload (pc := 1670) dL_law_1670 rfl ?_
  refine sg_iconst (pc := 1672) (z := 2) dL_law_1672 (by decide) ?_
  first | refine sg_iaddB (pc := 1673) dL_law_1673 (by omega) (by omega) ?_ | refine sg_iadd (pc := 1673) dL_law_1673 ?_
  refine sg_iald (pc := 1674) dL_law_1674 hI.2.2.2.2.2.2.2.2.2 rfl (by omega) (jk_x (by omega) (by omega)) ?_
  refine sg_aload_n (pc := 1675) (j := 3) dL_law_1675 rfl rfl ?_
  refine st_cS4 (pc := 1676) (d' := d - 1) (mc' := 8) (ms' := 48) g dL_law_1676 cb_L_told cw_L_told ml_L_309 ms_L_told (Nat.le_of_ble_eq_true rfl) (by first | exact jl_d0 hd rfl | omega) (by first | exact Nat.le_of_ble_eq_true rfl | omega) (by first | exact Nat.le_of_ble_eq_true rfl | omega) ?_
  refine s_L_told g nc (by omega) hI (fun v1 h1 I1 X1 => sg_K1 ?_)
  refine sg_istore (pc := 1679) dL_law_1679 (by decide) ?_
  refine sg_aload_n (pc := 1681) (j := 2) dL_law_1681 rfl rfl ?_
  refine sg_aload_n (pc := 1682) (j := 0) dL_law_1682 rfl rfl ?_
  refine sg_iload (pc := 1683) dL_law_1683 rfl ?_
  refine sg_iconst (pc := 1685) (z := 1) dL_law_1685 (by decide) ?_
  first | refine sg_iaddB (pc := 1686) dL_law_1686 (by omega) (by omega) ?_ | refine sg_iadd (pc := 1686) dL_law_1686 ?_
  refine sg_iald (pc := 1687) dL_law_1687 I1.2.2.2.2.2.2.2.2.2 rfl (by omega) (jk_x (by omega) (by omega)) ?_
  refine sg_aload_n (pc := 1688) (j := 0) dL_law_1688 rfl rfl ?_
  refine sg_iload (pc := 1689) dL_law_1689 rfl ?_
  refine sg_iconst (pc := 1691) (z := 2) dL_law_1691 (by decide) ?_
  first | refine sg_iaddB (pc := 1692) dL_law_1692 (by omega) (by omega) ?_ | refine sg_iadd (pc := 1692) dL_law_1692 ?_
  refine sg_iald (pc := 1693) dL_law_1693 I1.2.2.2.2.2.2.2.2.2 rfl (by omega) (jk_x (by omega) (by omega)) ?_
  refine st_as (fun H r => jk_tgR (B := B) r) ?_
  have m2 := jk_Im I1
  refine sg_cE2 (pc := 1694) (d' := d - 1) (mc' := 0) (ms' := 0) 8 g dL_law_1694 cb_X7_told ml_L_311 mn_X7_told rfl mv_X7_told (Nat.le_of_ble_eq_true rfl) (md_oc m2) (Nat.le_of_ble_eq_true rfl) (by first | exact jl_d0 hd rfl | omega) (by first | exact Nat.le_of_ble_eq_true rfl | omega) (by first | exact Nat.le_of_ble_eq_true rfl | omega) ?_
  refine s_X7_told g (by first | exact jl_d1 hd rfl | omega) m2 (fun v2 h2  y2 => sg_K1 ?_)
  refine st_as (fun H r => jk_unR I1.1 r) ?_
  have I2 := jk_IM I1 y2
  refine sg_istore (pc := 1697) dL_law_1697 (by decide) ?_
  refine sg_goto (pc := 1699) (tgt := 2465) dL_law_1699 (by decide) ?_
  refine sg_lsub (lv' := [(0, _), (1, _), (2, _), (3, _), (4, _)]) ⟨rfl, rfl, rfl, rfl, rfl, trivial⟩ ?_
  exact K _ _ _ I2 (by omega) (by omega)

set_option maxRecDepth 100000 in
set_option maxHeartbeats 1000000 in
theorem lw_c37 {w : sg_W} {Q : sg_O → sg_H → Prop} {h : sg_H} (g : sg_G w) (nc : jk_C w) (hJ : jz w) {d mc ms : Nat} (hd : 30 ≤ d) {B M O S j k n : Nat} {xs : List Int} (hI : jk_I w B M O S xs h) (hj : 6 * j + 6 ≤ xs.length) (hl : xs.length ≤ 3072) (hk : k + 1030 ≤ mc) (hn : n + (48 + 0) ≤ ms) (K : ∀ (h' : sg_H) (k' n' : Nat), jk_I w B M O S xs h' → k' ≤ k + 1030 → n' ≤ n + (48 + 0) → sg_R w mi_L_law d mc ms Q 2465 [(0, sg_r S), (1, sg_r B), (2, sg_r M), (3, sg_r O), (4, sg_i (6 * (j : Int)))] [] h' k' n') : sg_R w mi_L_law d mc ms Q 1702 [(0, sg_r S), (1, sg_r B), (2, sg_r M), (3, sg_r O), (4, sg_i (6 * (j : Int)))] [] h k n := by
  refine sg_aload_n (pc := 1702) (j := 1) dL_law_1702 rfl rfl ?_
  refine sg_aload_n (pc := 1703) (j := 0) dL_law_1703 rfl rfl ?_
  refine sg_iload (pc := 1704) dL_law_1704 rfl ?_
  refine sg_iconst (pc := 1706) (z := 1) dL_law_1706 (by decide) ?_
  first | refine sg_iaddB (pc := 1707) dL_law_1707 (by omega) (by omega) ?_ | refine sg_iadd (pc := 1707) dL_law_1707 ?_
  refine sg_iald (pc := 1708) dL_law_1708 hI.2.2.2.2.2.2.2.2.2 rfl (by omega) (jk_x (by omega) (by omega)) ?_
  refine sg_aload_n (pc := 1709) (j := 0) dL_law_1709 rfl rfl ?_
  refine sg_iload (pc := 1710) dL_law_1710 rfl ?_
  refine sg_iconst (pc := 1712) (z := 2) dL_law_1712 (by decide) ?_
  first | refine sg_iaddB (pc := 1713) dL_law_1713 (by omega) (by omega) ?_ | refine sg_iadd (pc := 1713) dL_law_1713 ?_
  refine sg_iald (pc := 1714) dL_law_1714 hI.2.2.2.2.2.2.2.2.2 rfl (by omega) (jk_x (by omega) (by omega)) ?_
  refine sg_aload_n (pc := 1715) (j := 3) dL_law_1715 rfl rfl ?_
  refine st_cS4 (pc := 1716) (d' := d - 1) (mc' := 8) (ms' := 48) g dL_law_1716 cb_L_sum cw_L_sum ml_L_312 ms_L_sum (Nat.le_of_ble_eq_true rfl) (by first | exact jl_d0 hd rfl | omega) (by first | exact Nat.le_of_ble_eq_true rfl | omega) (by first | exact Nat.le_of_ble_eq_true rfl | omega) ?_
  refine s_L_sum g nc (by omega) hI (fun v1 h1 I1 X1 => sg_K1 ?_)
  refine sg_istore (pc := 1719) dL_law_1719 (by decide) ?_
  refine sg_aload_n (pc := 1721) (j := 2) dL_law_1721 rfl rfl ?_
  refine sg_aload_n (pc := 1722) (j := 0) dL_law_1722 rfl rfl ?_
  refine sg_iload (pc := 1723) dL_law_1723 rfl ?_
  refine sg_iconst (pc := 1725) (z := 1) dL_law_1725 (by decide) ?_
  first | refine sg_iaddB (pc := 1726) dL_law_1726 (by omega) (by omega) ?_ | refine sg_iadd (pc := 1726) dL_law_1726 ?_
  refine sg_iald (pc := 1727) dL_law_1727 I1.2.2.2.2.2.2.2.2.2 rfl (by omega) (jk_x (by omega) (by omega)) ?_
  refine sg_aload_n (pc := 1728) (j := 0) dL_law_1728 rfl rfl ?_
  refine sg_iload (pc := 1729) dL_law_1729 rfl ?_
  refine sg_iconst (pc := 1731) (z := 2) dL_law_1731 (by decide) ?_
  first | refine sg_iaddB (pc := 1732) dL_law_1732 (by omega) (by omega) ?_ | refine sg_iadd (pc := 1732) dL_law_1732 ?_
  refine sg_iald (pc := 1733) dL_law_1733 I1.2.2.2.2.2.2.2.2.2 rfl (by omega) (jk_x (by omega) (by omega)) ?_
  refine st_as (fun H r => jk_tgR (B := B) r) ?_
  have m2 := jk_Im I1
  refine sg_cE2 (pc := 1734) (d' := d - 1) (mc' := 0) (ms' := 0) 8 g dL_law_1734 cb_X7_sum ml_L_314 mn_X7_sum rfl mv_X7_sum (Nat.le_of_ble_eq_true rfl) (md_oc m2) (Nat.le_of_ble_eq_true rfl) (by first | exact jl_d0 hd rfl | omega) (by first | exact Nat.le_of_ble_eq_true rfl | omega) (by first | exact Nat.le_of_ble_eq_true rfl | omega) ?_
  refine s_X7_sum g (by first | exact jl_d1 hd rfl | omega) m2 (fun v2 h2  y2 => sg_K1 ?_)
  refine st_as (fun H r => jk_unR I1.1 r) ?_
  have I2 := jk_IM I1 y2
  refine sg_istore (pc := 1737) dL_law_1737 (by decide) ?_
  refine sg_goto (pc := 1739) (tgt := 2465) dL_law_1739 (by decide) ?_
  refine sg_lsub (lv' := [(0, _), (1, _), (2, _), (3, _), (4, _)]) ⟨rfl, rfl, rfl, rfl, rfl, trivial⟩ ?_
  exact K _ _ _ I2 (by omega) (by omega)

set_option maxRecDepth 100000 in
set_option maxHeartbeats 1000000 in
theorem lw_c38 {w : sg_W} {Q : sg_O → sg_H → Prop} {h : sg_H} (g : sg_G w) (nc : jk_C w) (hJ : jz w) {d mc ms : Nat} (hd : 30 ≤ d) {B M O S j k n : Nat} {xs : List Int} (hI : jk_I w B M O S xs h) (hj : 6 * j + 6 ≤ xs.length) (hl : xs.length ≤ 3072) (hk : k + 1030 ≤ mc) (hn : n + (48 + 0) ≤ ms) (K : ∀ (h' : sg_H) (k' n' : Nat), jk_I w B M O S xs h' → k' ≤ k + 1030 → n' ≤ n + (48 + 0) → sg_R w mi_L_law d mc ms Q 2465 [(0, sg_r S), (1, sg_r B), (2, sg_r M), (3, sg_r O), (4, sg_i (6 * (j : Int)))] [] h' k' n') : sg_R w mi_L_law d mc ms Q 1742 [(0, sg_r S), (1, sg_r B), (2, sg_r M), (3, sg_r O), (4, sg_i (6 * (j : Int)))] [] h k n := by
  refine sg_aload_n (pc := 1742) (j := 1) dL_law_1742 rfl rfl ?_
  refine sg_aload_n (pc := 1743) (j := 0) dL_law_1743 rfl rfl ?_
  refine sg_iload (pc := 1744) dL_law_1744 rfl ?_
  refine sg_iconst (pc := 1746) (z := 1) dL_law_1746 (by decide) ?_
  first | refine sg_iaddB (pc := 1747) dL_law_1747 (by omega) (by omega) ?_ | refine sg_iadd (pc := 1747) dL_law_1747 ?_
  refine sg_iald (pc := 1748) dL_law_1748 hI.2.2.2.2.2.2.2.2.2 rfl (by omega) (jk_x (by omega) (by omega)) ?_
  refine sg_aload_n (pc := 1749) (j := 3) dL_law_1749 rfl rfl ?_
  refine st_cS3 (pc := 1750) (d' := d - 1) (mc' := 8) (ms' := 48) g dL_law_1750 cb_L_values cw_L_values ml_L_315 ms_L_values (Nat.le_of_ble_eq_true rfl) (by first | exact jl_d0 hd rfl | omega) (by first | exact Nat.le_of_ble_eq_true rfl | omega) (by first | exact Nat.le_of_ble_eq_true rfl | omega) ?_
  refine s_L_values g nc (by omega) hI (fun v1 h1 I1 X1 => sg_K1 ?_)
  refine sg_istore (pc := 1753) dL_law_1753 (by decide) ?_
  refine sg_aload_n (pc := 1755) (j := 2) dL_law_1755 rfl rfl ?_
  refine sg_aload_n (pc := 1756) (j := 0) dL_law_1756 rfl rfl ?_
  refine sg_iload (pc := 1757) dL_law_1757 rfl ?_
  refine sg_iconst (pc := 1759) (z := 1) dL_law_1759 (by decide) ?_
  first | refine sg_iaddB (pc := 1760) dL_law_1760 (by omega) (by omega) ?_ | refine sg_iadd (pc := 1760) dL_law_1760 ?_
  refine sg_iald (pc := 1761) dL_law_1761 I1.2.2.2.2.2.2.2.2.2 rfl (by omega) (jk_x (by omega) (by omega)) ?_
  refine st_as (fun H r => jk_tgR (B := B) r) ?_
  have m2 := jk_Im I1
  refine sg_cE1 (pc := 1762) (d' := d - 1) (mc' := 0) (ms' := 0) 8 g dL_law_1762 cb_X7_values ml_L_317 mn_X7_values rfl mv_X7_values (Nat.le_of_ble_eq_true rfl) (md_oc m2) (Nat.le_of_ble_eq_true rfl) (by first | exact jl_d0 hd rfl | omega) (by first | exact Nat.le_of_ble_eq_true rfl | omega) (by first | exact Nat.le_of_ble_eq_true rfl | omega) ?_
  refine s_X7_values g (by first | exact jl_d1 hd rfl | omega) m2 (fun v2 h2  y2 => sg_K1 ?_)
  refine st_as (fun H r => jk_unR I1.1 r) ?_
  have I2 := jk_IM I1 y2
  refine sg_istore (pc := 1765) dL_law_1765 (by decide) ?_
  refine sg_goto (pc := 1767) (tgt := 2465) dL_law_1767 (by decide) ?_
  refine sg_lsub (lv' := [(0, _), (1, _), (2, _), (3, _), (4, _)]) ⟨rfl, rfl, rfl, rfl, rfl, trivial⟩ ?_
  exact K _ _ _ I2 (by omega) (by omega)

set_option maxRecDepth 100000 in
set_option maxHeartbeats 1000000 in
theorem lw_c39 {w : sg_W} {Q : sg_O → sg_H → Prop} {h : sg_H} (g : sg_G w) (nc : jk_C w) (hJ : jz w) {d mc ms : Nat} (hd : 30 ≤ d) {B M O S j k n : Nat} {xs : List Int} (hI : jk_I w B M O S xs h) (hj : 6 * j + 6 ≤ xs.length) (hl : xs.length ≤ 3072) (hk : k + 1030 ≤ mc) (hn : n + (48 + 90) ≤ ms) (K : ∀ (h' : sg_H) (k' n' : Nat), jk_I w B M O S xs h' → k' ≤ k + 1030 → n' ≤ n + (48 + 90) → sg_R w mi_L_law d mc ms Q 2465 [(0, sg_r S), (1, sg_r B), (2, sg_r M), (3, sg_r O), (4, sg_i (6 * (j : Int)))] [] h' k' n') : sg_R w mi_L_law d mc ms Q 1770 [(0, sg_r S), (1, sg_r B), (2, sg_r M), (3, sg_r O), (4, sg_i (6 * (j : Int)))] [] h k n := by
  refine sg_aload_n (pc := 1770) (j := 1) dL_law_1770 rfl rfl ?_
  refine sg_aload_n (pc := 1771) (j := 0) dL_law_1771 rfl rfl ?_
  refine sg_iload (pc := 1772) dL_law_1772 rfl ?_
  refine sg_iconst (pc := 1774) (z := 1) dL_law_1774 (by decide) ?_
  first | refine sg_iaddB (pc := 1775) dL_law_1775 (by omega) (by omega) ?_ | refine sg_iadd (pc := 1775) dL_law_1775 ?_
  refine sg_iald (pc := 1776) dL_law_1776 hI.2.2.2.2.2.2.2.2.2 rfl (by omega) (jk_x (by omega) (by omega)) ?_
  refine sg_aload_n (pc := 1777) (j := 3) dL_law_1777 rfl rfl ?_
  refine st_cS3 (pc := 1778) (d' := d - 1) (mc' := 8) (ms' := 48) g dL_law_1778 cb_L_words cw_L_words ml_L_318 ms_L_words (Nat.le_of_ble_eq_true rfl) (by first | exact jl_d0 hd rfl | omega) (by first | exact Nat.le_of_ble_eq_true rfl | omega) (by first | exact Nat.le_of_ble_eq_true rfl | omega) ?_
  refine s_L_words g nc (by omega) hI (fun v1 h1 I1 X1 => sg_K1 ?_)
  refine sg_istore (pc := 1781) dL_law_1781 (by decide) ?_
  refine sg_aload_n (pc := 1783) (j := 2) dL_law_1783 rfl rfl ?_
  refine sg_aload_n (pc := 1784) (j := 0) dL_law_1784 rfl rfl ?_
  refine sg_iload (pc := 1785) dL_law_1785 rfl ?_
  refine sg_iconst (pc := 1787) (z := 1) dL_law_1787 (by decide) ?_
  first | refine sg_iaddB (pc := 1788) dL_law_1788 (by omega) (by omega) ?_ | refine sg_iadd (pc := 1788) dL_law_1788 ?_
  refine sg_iald (pc := 1789) dL_law_1789 I1.2.2.2.2.2.2.2.2.2 rfl (by omega) (jk_x (by omega) (by omega)) ?_
  refine st_as (fun H r => jk_tgR (B := B) r) ?_
  have m2 := jk_Im I1
  refine sg_cE1 (pc := 1790) (d' := d - 1) (mc' := 24) (ms' := 90) 8 g dL_law_1790 cb_X7_words ml_L_320 mn_X7_words rfl mv_X7_words (Nat.le_of_ble_eq_true rfl) (md_oc m2) (Nat.le_of_ble_eq_true rfl) (by first | exact jl_d0 hd rfl | omega) (by first | exact Nat.le_of_ble_eq_true rfl | omega) (by first | exact Nat.le_of_ble_eq_true rfl | omega) ?_
  refine s_X7_words g (by first | exact jl_d1 hd rfl | omega) m2 (fun v2 h2  y2 => sg_K1 ?_)
  refine st_as (fun H r => jk_unR I1.1 r) ?_
  have I2 := jk_IM I1 y2
  refine sg_istore (pc := 1793) dL_law_1793 (by decide) ?_
  refine sg_goto (pc := 1795) (tgt := 2465) dL_law_1795 (by decide) ?_
  refine sg_lsub (lv' := [(0, _), (1, _), (2, _), (3, _), (4, _)]) ⟨rfl, rfl, rfl, rfl, rfl, trivial⟩ ?_
  exact K _ _ _ I2 (by omega) (by omega)

set_option maxRecDepth 100000 in
set_option maxHeartbeats 1000000 in
theorem lw_c40 {w : sg_W} {Q : sg_O → sg_H → Prop} {h : sg_H} (g : sg_G w) (nc : jk_C w) (hJ : jz w) {d mc ms : Nat} (hd : 30 ≤ d) {B M O S j k n : Nat} {xs : List Int} (hI : jk_I w B M O S xs h) (hj : 6 * j + 6 ≤ xs.length) (hl : xs.length ≤ 3072) (hk : k + 1030 ≤ mc) (hn : n + (48 + 180) ≤ ms) (K : ∀ (h' : sg_H) (k' n' : Nat), jk_I w B M O S xs h' → k' ≤ k + 1030 → n' ≤ n + (48 + 180) → sg_R w mi_L_law d mc ms Q 2465 [(0, sg_r S), (1, sg_r B), (2, sg_r M), (3, sg_r O), (4, sg_i (6 * (j : Int)))] [] h' k' n') : sg_R w mi_L_law d mc ms Q 1798 [(0, sg_r S), (1, sg_r B), (2, sg_r M), (3, sg_r O), (4, sg_i (6 * (j : Int)))] [] h k n := by
  refine sg_aload_n (pc := 1798) (j := 1) dL_law_1798 rfl rfl ?_
  refine sg_aload_n (pc := 1799) (j := 0) dL_law_1799 rfl rfl ?_
  refine sg_iload (pc := 1800) dL_law_1800 rfl ?_
  refine sg_iconst (pc := 1802) (z := 1) dL_law_1802 (by decide) ?_
  first | refine sg_iaddB (pc := 1803) dL_law_1803 (by omega) (by omega) ?_ | refine sg_iadd (pc := 1803) dL_law_1803 ?_
  refine sg_iald (pc := 1804) dL_law_1804 hI.2.2.2.2.2.2.2.2.2 rfl (by omega) (jk_x (by omega) (by omega)) ?_
  refine sg_aload_n (pc := 1805) (j := 0) dL_law_1805 rfl rfl ?_
  refine sg_iload (pc := 1806) dL_law_1806 rfl ?_
  refine sg_iconst (pc := 1808) (z := 2) dL_law_1808 (by decide) ?_
  first | refine sg_iaddB (pc := 1809) dL_law_1809 (by omega) (by omega) ?_ | refine sg_iadd (pc := 1809) dL_law_1809 ?_
  refine sg_iald (pc := 1810) dL_law_1810 hI.2.2.2.2.2.2.2.2.2 rfl (by omega) (jk_x (by omega) (by omega)) ?_
  refine sg_aload_n (pc := 1811) (j := 0) dL_law_1811 rfl rfl ?_
  refine sg_iload (pc := 1812) dL_law_1812 rfl ?_
  refine sg_iconst (pc := 1814) (z := 3) dL_law_1814 (by decide) ?_
  first | refine sg_iaddB (pc := 1815) dL_law_1815 (by omega) (by omega) ?_ | refine sg_iadd (pc := 1815) dL_law_1815 ?_
  refine sg_iald (pc := 1816) dL_law_1816 hI.2.2.2.2.2.2.2.2.2 rfl (by omega) (jk_x (by omega) (by omega)) ?_
  refine sg_if_eq (pc := 1817) (tgt := 1824) dL_law_1817 (by decide) (fun c1817 => ?_) (fun c1817 => ?_)
  · refine sg_iconst (pc := 1824) (z := 0) dL_law_1824 (by decide) ?_
    refine sg_aload_n (pc := 1825) (j := 3) dL_law_1825 rfl rfl ?_
    refine st_cS5 (pc := 1826) (d' := d - 1) (mc' := 8) (ms' := 48) g dL_law_1826 cb_L_word cw_L_word ml_L_321 ms_L_word (Nat.le_of_ble_eq_true rfl) (by first | exact jl_d0 hd rfl | omega) (by first | exact Nat.le_of_ble_eq_true rfl | omega) (by first | exact Nat.le_of_ble_eq_true rfl | omega) ?_
    refine s_L_word g nc (by omega) hI (fun v1 h1 I1 X1 => sg_K1 ?_)
    refine sg_istore (pc := 1829) dL_law_1829 (by decide) ?_
    refine sg_aload_n (pc := 1831) (j := 2) dL_law_1831 rfl rfl ?_
    refine sg_aload_n (pc := 1832) (j := 0) dL_law_1832 rfl rfl ?_
    refine sg_iload (pc := 1833) dL_law_1833 rfl ?_
    refine sg_iconst (pc := 1835) (z := 1) dL_law_1835 (by decide) ?_
    first | refine sg_iaddB (pc := 1836) dL_law_1836 (by omega) (by omega) ?_ | refine sg_iadd (pc := 1836) dL_law_1836 ?_
    refine sg_iald (pc := 1837) dL_law_1837 I1.2.2.2.2.2.2.2.2.2 rfl (by omega) (jk_x (by omega) (by omega)) ?_
    refine sg_aload_n (pc := 1838) (j := 0) dL_law_1838 rfl rfl ?_
    refine sg_iload (pc := 1839) dL_law_1839 rfl ?_
    refine sg_iconst (pc := 1841) (z := 2) dL_law_1841 (by decide) ?_
    first | refine sg_iaddB (pc := 1842) dL_law_1842 (by omega) (by omega) ?_ | refine sg_iadd (pc := 1842) dL_law_1842 ?_
    refine sg_iald (pc := 1843) dL_law_1843 I1.2.2.2.2.2.2.2.2.2 rfl (by omega) (jk_x (by omega) (by omega)) ?_
    refine sg_aload_n (pc := 1844) (j := 0) dL_law_1844 rfl rfl ?_
    refine sg_iload (pc := 1845) dL_law_1845 rfl ?_
    refine sg_iconst (pc := 1847) (z := 3) dL_law_1847 (by decide) ?_
    first | refine sg_iaddB (pc := 1848) dL_law_1848 (by omega) (by omega) ?_ | refine sg_iadd (pc := 1848) dL_law_1848 ?_
    refine sg_iald (pc := 1849) dL_law_1849 I1.2.2.2.2.2.2.2.2.2 rfl (by omega) (jk_x (by omega) (by omega)) ?_
    refine sg_if_eq (pc := 1850) (tgt := 1857) dL_law_1850 (by decide) (fun c1850 => ?_) (fun c1850 => ?_)
    · refine sg_iconst (pc := 1857) (z := 0) dL_law_1857 (by decide) ?_
      refine st_as (fun H r => jk_tgR (B := B) r) ?_
      have m2 := jk_Im I1
      refine sg_cE3 (pc := 1858) (d' := d - 1) (mc' := 48) (ms' := 180) 8 g dL_law_1858 cb_X7_word ml_L_323 mn_X7_word rfl mv_X7_word (Nat.le_of_ble_eq_true rfl) (md_oc m2) (Nat.le_of_ble_eq_true rfl) (by first | exact jl_d0 hd rfl | omega) (by first | exact Nat.le_of_ble_eq_true rfl | omega) (by first | exact Nat.le_of_ble_eq_true rfl | omega) ?_
      refine s_X7_word g (by first | exact jl_d1 hd rfl | omega) m2 (fun v2 h2  y2 => sg_K1 ?_)
      refine st_as (fun H r => jk_unR I1.1 r) ?_
      have I2 := jk_IM I1 y2
      refine sg_istore (pc := 1861) dL_law_1861 (by decide) ?_
      refine sg_goto (pc := 1863) (tgt := 2465) dL_law_1863 (by decide) ?_
      refine sg_lsub (lv' := [(0, _), (1, _), (2, _), (3, _), (4, _)]) ⟨rfl, rfl, rfl, rfl, rfl, trivial⟩ ?_
      exact K _ _ _ I2 (by omega) (by omega)
    · refine sg_iconst (pc := 1853) (z := 1) dL_law_1853 (by decide) ?_
      refine sg_goto (pc := 1854) (tgt := 1858) dL_law_1854 (by decide) ?_
      refine st_as (fun H r => jk_tgR (B := B) r) ?_
      have m3 := jk_Im I1
      refine sg_cE3 (pc := 1858) (d' := d - 1) (mc' := 48) (ms' := 180) 8 g dL_law_1858 cb_X7_word ml_L_323 mn_X7_word rfl mv_X7_word (Nat.le_of_ble_eq_true rfl) (md_oc m3) (Nat.le_of_ble_eq_true rfl) (by first | exact jl_d0 hd rfl | omega) (by first | exact Nat.le_of_ble_eq_true rfl | omega) (by first | exact Nat.le_of_ble_eq_true rfl | omega) ?_
      refine s_X7_word g (by first | exact jl_d1 hd rfl | omega) m3 (fun v3 h3  y3 => sg_K1 ?_)
      refine st_as (fun H r => jk_unR I1.1 r) ?_
      have I3 := jk_IM I1 y3
      refine sg_istore (pc := 1861) dL_law_1861 (by decide) ?_
      refine sg_goto (pc := 1863) (tgt := 2465) dL_law_1863 (by decide) ?_
      refine sg_lsub (lv' := [(0, _), (1, _), (2, _), (3, _), (4, _)]) ⟨rfl, rfl, rfl, rfl, rfl, trivial⟩ ?_
      exact K _ _ _ I3 (by omega) (by omega)
  · refine sg_iconst (pc := 1820) (z := 1) dL_law_1820 (by decide) ?_
    refine sg_goto (pc := 1821) (tgt := 1825) dL_law_1821 (by decide) ?_
    refine sg_aload_n (pc := 1825) (j := 3) dL_law_1825 rfl rfl ?_
    refine st_cS5 (pc := 1826) (d' := d - 1) (mc' := 8) (ms' := 48) g dL_law_1826 cb_L_word cw_L_word ml_L_321 ms_L_word (Nat.le_of_ble_eq_true rfl) (by first | exact jl_d0 hd rfl | omega) (by first | exact Nat.le_of_ble_eq_true rfl | omega) (by first | exact Nat.le_of_ble_eq_true rfl | omega) ?_
    refine s_L_word g nc (by omega) hI (fun v4 h4 I4 X4 => sg_K1 ?_)
    refine sg_istore (pc := 1829) dL_law_1829 (by decide) ?_
    refine sg_aload_n (pc := 1831) (j := 2) dL_law_1831 rfl rfl ?_
    refine sg_aload_n (pc := 1832) (j := 0) dL_law_1832 rfl rfl ?_
    refine sg_iload (pc := 1833) dL_law_1833 rfl ?_
    refine sg_iconst (pc := 1835) (z := 1) dL_law_1835 (by decide) ?_
    first | refine sg_iaddB (pc := 1836) dL_law_1836 (by omega) (by omega) ?_ | refine sg_iadd (pc := 1836) dL_law_1836 ?_
    refine sg_iald (pc := 1837) dL_law_1837 I4.2.2.2.2.2.2.2.2.2 rfl (by omega) (jk_x (by omega) (by omega)) ?_
    refine sg_aload_n (pc := 1838) (j := 0) dL_law_1838 rfl rfl ?_
    refine sg_iload (pc := 1839) dL_law_1839 rfl ?_
    refine sg_iconst (pc := 1841) (z := 2) dL_law_1841 (by decide) ?_
    first | refine sg_iaddB (pc := 1842) dL_law_1842 (by omega) (by omega) ?_ | refine sg_iadd (pc := 1842) dL_law_1842 ?_
    refine sg_iald (pc := 1843) dL_law_1843 I4.2.2.2.2.2.2.2.2.2 rfl (by omega) (jk_x (by omega) (by omega)) ?_
    refine sg_aload_n (pc := 1844) (j := 0) dL_law_1844 rfl rfl ?_
    refine sg_iload (pc := 1845) dL_law_1845 rfl ?_
    refine sg_iconst (pc := 1847) (z := 3) dL_law_1847 (by decide) ?_
    first | refine sg_iaddB (pc := 1848) dL_law_1848 (by omega) (by omega) ?_ | refine sg_iadd (pc := 1848) dL_law_1848 ?_
    refine sg_iald (pc := 1849) dL_law_1849 I4.2.2.2.2.2.2.2.2.2 rfl (by omega) (jk_x (by omega) (by omega)) ?_
    refine sg_if_eq (pc := 1850) (tgt := 1857) dL_law_1850 (by decide) (fun c1850 => ?_) (fun c1850 => ?_)
    · refine sg_iconst (pc := 1857) (z := 0) dL_law_1857 (by decide) ?_
      refine st_as (fun H r => jk_tgR (B := B) r) ?_
      have m5 := jk_Im I4
      refine sg_cE3 (pc := 1858) (d' := d - 1) (mc' := 48) (ms' := 180) 8 g dL_law_1858 cb_X7_word ml_L_323 mn_X7_word rfl mv_X7_word (Nat.le_of_ble_eq_true rfl) (md_oc m5) (Nat.le_of_ble_eq_true rfl) (by first | exact jl_d0 hd rfl | omega) (by first | exact Nat.le_of_ble_eq_true rfl | omega) (by first | exact Nat.le_of_ble_eq_true rfl | omega) ?_
      refine s_X7_word g (by first | exact jl_d1 hd rfl | omega) m5 (fun v5 h5  y5 => sg_K1 ?_)
      refine st_as (fun H r => jk_unR I4.1 r) ?_
      have I5 := jk_IM I4 y5
      refine sg_istore (pc := 1861) dL_law_1861 (by decide) ?_
      refine sg_goto (pc := 1863) (tgt := 2465) dL_law_1863 (by decide) ?_
      refine sg_lsub (lv' := [(0, _), (1, _), (2, _), (3, _), (4, _)]) ⟨rfl, rfl, rfl, rfl, rfl, trivial⟩ ?_
      exact K _ _ _ I5 (by omega) (by omega)
    · refine sg_iconst (pc := 1853) (z := 1) dL_law_1853 (by decide) ?_
      refine sg_goto (pc := 1854) (tgt := 1858) dL_law_1854 (by decide) ?_
      refine st_as (fun H r => jk_tgR (B := B) r) ?_
      have m6 := jk_Im I4
      refine sg_cE3 (pc := 1858) (d' := d - 1) (mc' := 48) (ms' := 180) 8 g dL_law_1858 cb_X7_word ml_L_323 mn_X7_word rfl mv_X7_word (Nat.le_of_ble_eq_true rfl) (md_oc m6) (Nat.le_of_ble_eq_true rfl) (by first | exact jl_d0 hd rfl | omega) (by first | exact Nat.le_of_ble_eq_true rfl | omega) (by first | exact Nat.le_of_ble_eq_true rfl | omega) ?_
      refine s_X7_word g (by first | exact jl_d1 hd rfl | omega) m6 (fun v6 h6  y6 => sg_K1 ?_)
      refine st_as (fun H r => jk_unR I4.1 r) ?_
      have I6 := jk_IM I4 y6
      refine sg_istore (pc := 1861) dL_law_1861 (by decide) ?_
      refine sg_goto (pc := 1863) (tgt := 2465) dL_law_1863 (by decide) ?_
      refine sg_lsub (lv' := [(0, _), (1, _), (2, _), (3, _), (4, _)]) ⟨rfl, rfl, rfl, rfl, rfl, trivial⟩ ?_
      exact K _ _ _ I6 (by omega) (by omega)

set_option maxRecDepth 100000 in
set_option maxHeartbeats 1000000 in
theorem lw_c41 {w : sg_W} {Q : sg_O → sg_H → Prop} {h : sg_H} (g : sg_G w) (nc : jk_C w) (hJ : jz w) {d mc ms : Nat} (hd : 30 ≤ d) {B M O S j k n : Nat} {xs : List Int} (hI : jk_I w B M O S xs h) (hj : 6 * j + 6 ≤ xs.length) (hl : xs.length ≤ 3072) (hk : k + 1030 ≤ mc) (hn : n + (48 + 0) ≤ ms) (K : ∀ (h' : sg_H) (k' n' : Nat), jk_I w B M O S xs h' → k' ≤ k + 1030 → n' ≤ n + (48 + 0) → sg_R w mi_L_law d mc ms Q 2465 [(0, sg_r S), (1, sg_r B), (2, sg_r M), (3, sg_r O), (4, sg_i (6 * (j : Int)))] [] h' k' n') : sg_R w mi_L_law d mc ms Q 1866 [(0, sg_r S), (1, sg_r B), (2, sg_r M), (3, sg_r O), (4, sg_i (6 * (j : Int)))] [] h k n := by
  refine sg_aload_n (pc := 1866) (j := 1) dL_law_1866 rfl rfl ?_
  refine sg_aload_n (pc := 1867) (j := 0) dL_law_1867 rfl rfl ?_
  refine sg_iload (pc := 1868) dL_law_1868 rfl ?_
  refine sg_iconst (pc := 1870) (z := 1) dL_law_1870 (by decide) ?_
  first | refine sg_iaddB (pc := 1871) dL_law_1871 (by omega) (by omega) ?_ | refine sg_iadd (pc := 1871) dL_law_1871 ?_
  refine sg_iald (pc := 1872) dL_law_1872 hI.2.2.2.2.2.2.2.2.2 rfl (by omega) (jk_x (by omega) (by omega)) ?_
  refine sg_aload_n (pc := 1873) (j := 0) dL_law_1873 rfl rfl ?_
  refine sg_iload (pc := 1874) dL_law_1874 rfl ?_
  refine sg_iconst (pc := 1876) (z := 2) dL_law_1876 (by decide) ?_
  first | refine sg_iaddB (pc := 1877) dL_law_1877 (by omega) (by omega) ?_ | refine sg_iadd (pc := 1877) dL_law_1877 ?_
  refine sg_iald (pc := 1878) dL_law_1878 hI.2.2.2.2.2.2.2.2.2 rfl (by omega) (jk_x (by omega) (by omega)) ?_
  refine sg_aload_n (pc := 1879) (j := 3) dL_law_1879 rfl rfl ?_
  refine st_cS4 (pc := 1880) (d' := d - 1) (mc' := 8) (ms' := 48) g dL_law_1880 cb_L_isAlike cw_L_isAlike ml_L_324 ms_L_isAlike (Nat.le_of_ble_eq_true rfl) (by first | exact jl_d0 hd rfl | omega) (by first | exact Nat.le_of_ble_eq_true rfl | omega) (by first | exact Nat.le_of_ble_eq_true rfl | omega) ?_
  refine s_L_isAlike g nc (by omega) hI (fun v1 h1 I1 X1 => sg_K1 ?_)
  refine sg_istore (pc := 1883) dL_law_1883 (by decide) ?_
  refine sg_aload_n (pc := 1885) (j := 2) dL_law_1885 rfl rfl ?_
  refine sg_aload_n (pc := 1886) (j := 0) dL_law_1886 rfl rfl ?_
  refine sg_iload (pc := 1887) dL_law_1887 rfl ?_
  refine sg_iconst (pc := 1889) (z := 1) dL_law_1889 (by decide) ?_
  first | refine sg_iaddB (pc := 1890) dL_law_1890 (by omega) (by omega) ?_ | refine sg_iadd (pc := 1890) dL_law_1890 ?_
  refine sg_iald (pc := 1891) dL_law_1891 I1.2.2.2.2.2.2.2.2.2 rfl (by omega) (jk_x (by omega) (by omega)) ?_
  refine sg_aload_n (pc := 1892) (j := 0) dL_law_1892 rfl rfl ?_
  refine sg_iload (pc := 1893) dL_law_1893 rfl ?_
  refine sg_iconst (pc := 1895) (z := 2) dL_law_1895 (by decide) ?_
  first | refine sg_iaddB (pc := 1896) dL_law_1896 (by omega) (by omega) ?_ | refine sg_iadd (pc := 1896) dL_law_1896 ?_
  refine sg_iald (pc := 1897) dL_law_1897 I1.2.2.2.2.2.2.2.2.2 rfl (by omega) (jk_x (by omega) (by omega)) ?_
  refine st_as (fun H r => jk_tgR (B := B) r) ?_
  have m2 := jk_Im I1
  refine sg_cE2 (pc := 1898) (d' := d - 1) (mc' := 0) (ms' := 0) 8 g dL_law_1898 cb_X7_isAlike ml_L_326 mn_X7_isAlike rfl mv_X7_isAlike (Nat.le_of_ble_eq_true rfl) (md_oc m2) (Nat.le_of_ble_eq_true rfl) (by first | exact jl_d0 hd rfl | omega) (by first | exact Nat.le_of_ble_eq_true rfl | omega) (by first | exact Nat.le_of_ble_eq_true rfl | omega) ?_
  refine s_X7_isAlike g (by first | exact jl_d1 hd rfl | omega) m2 (fun v2 h2 c2_0 y2 => sg_K1 ?_)
  refine st_as (fun H r => jk_unR I1.1 r) ?_
  have I2 := jk_IM I1 y2
  refine sg_istore (pc := 1901) dL_law_1901 (by decide) ?_
  refine sg_goto (pc := 1903) (tgt := 2465) dL_law_1903 (by decide) ?_
  refine sg_lsub (lv' := [(0, _), (1, _), (2, _), (3, _), (4, _)]) ⟨rfl, rfl, rfl, rfl, rfl, trivial⟩ ?_
  exact K _ _ _ I2 (by omega) (by omega)

set_option maxRecDepth 100000 in
set_option maxHeartbeats 1000000 in
theorem lw_c42 {w : sg_W} {Q : sg_O → sg_H → Prop} {h : sg_H} (g : sg_G w) (nc : jk_C w) (hJ : jz w) {d mc ms : Nat} (hd : 30 ≤ d) {B M O S j k n : Nat} {xs : List Int} (hI : jk_I w B M O S xs h) (hj : 6 * j + 6 ≤ xs.length) (hl : xs.length ≤ 3072) (hk : k + 1030 ≤ mc) (hn : n + (48 + 0) ≤ ms) (K : ∀ (h' : sg_H) (k' n' : Nat), jk_I w B M O S xs h' → k' ≤ k + 1030 → n' ≤ n + (48 + 0) → sg_R w mi_L_law d mc ms Q 2465 [(0, sg_r S), (1, sg_r B), (2, sg_r M), (3, sg_r O), (4, sg_i (6 * (j : Int)))] [] h' k' n') : sg_R w mi_L_law d mc ms Q 1906 [(0, sg_r S), (1, sg_r B), (2, sg_r M), (3, sg_r O), (4, sg_i (6 * (j : Int)))] [] h k n := by
  refine sg_aload_n (pc := 1906) (j := 1) dL_law_1906 rfl rfl ?_
  refine sg_aload_n (pc := 1907) (j := 0) dL_law_1907 rfl rfl ?_
  refine sg_iload (pc := 1908) dL_law_1908 rfl ?_
  refine sg_iconst (pc := 1910) (z := 1) dL_law_1910 (by decide) ?_
  first | refine sg_iaddB (pc := 1911) dL_law_1911 (by omega) (by omega) ?_ | refine sg_iadd (pc := 1911) dL_law_1911 ?_
  refine sg_iald (pc := 1912) dL_law_1912 hI.2.2.2.2.2.2.2.2.2 rfl (by omega) (jk_x (by omega) (by omega)) ?_
  refine sg_aload_n (pc := 1913) (j := 0) dL_law_1913 rfl rfl ?_
  refine sg_iload (pc := 1914) dL_law_1914 rfl ?_
  refine sg_iconst (pc := 1916) (z := 2) dL_law_1916 (by decide) ?_
  first | refine sg_iaddB (pc := 1917) dL_law_1917 (by omega) (by omega) ?_ | refine sg_iadd (pc := 1917) dL_law_1917 ?_
  refine sg_iald (pc := 1918) dL_law_1918 hI.2.2.2.2.2.2.2.2.2 rfl (by omega) (jk_x (by omega) (by omega)) ?_
  refine sg_aload_n (pc := 1919) (j := 3) dL_law_1919 rfl rfl ?_
  refine st_cS4 (pc := 1920) (d' := d - 1) (mc' := 8) (ms' := 48) g dL_law_1920 cb_L_order cw_L_order ml_L_327 ms_L_order (Nat.le_of_ble_eq_true rfl) (by first | exact jl_d0 hd rfl | omega) (by first | exact Nat.le_of_ble_eq_true rfl | omega) (by first | exact Nat.le_of_ble_eq_true rfl | omega) ?_
  refine s_L_order g nc (by omega) hI (fun v1 h1 I1 X1 => sg_K1 ?_)
  refine sg_istore (pc := 1923) dL_law_1923 (by decide) ?_
  refine sg_aload_n (pc := 1925) (j := 2) dL_law_1925 rfl rfl ?_
  refine sg_aload_n (pc := 1926) (j := 0) dL_law_1926 rfl rfl ?_
  refine sg_iload (pc := 1927) dL_law_1927 rfl ?_
  refine sg_iconst (pc := 1929) (z := 1) dL_law_1929 (by decide) ?_
  first | refine sg_iaddB (pc := 1930) dL_law_1930 (by omega) (by omega) ?_ | refine sg_iadd (pc := 1930) dL_law_1930 ?_
  refine sg_iald (pc := 1931) dL_law_1931 I1.2.2.2.2.2.2.2.2.2 rfl (by omega) (jk_x (by omega) (by omega)) ?_
  refine sg_aload_n (pc := 1932) (j := 0) dL_law_1932 rfl rfl ?_
  refine sg_iload (pc := 1933) dL_law_1933 rfl ?_
  refine sg_iconst (pc := 1935) (z := 2) dL_law_1935 (by decide) ?_
  first | refine sg_iaddB (pc := 1936) dL_law_1936 (by omega) (by omega) ?_ | refine sg_iadd (pc := 1936) dL_law_1936 ?_
  refine sg_iald (pc := 1937) dL_law_1937 I1.2.2.2.2.2.2.2.2.2 rfl (by omega) (jk_x (by omega) (by omega)) ?_
  refine st_as (fun H r => jk_tgR (B := B) r) ?_
  have m2 := jk_Im I1
  refine sg_cE2 (pc := 1938) (d' := d - 1) (mc' := 0) (ms' := 0) 8 g dL_law_1938 cb_X7_order ml_L_329 mn_X7_order rfl mv_X7_order (Nat.le_of_ble_eq_true rfl) (md_oc m2) (Nat.le_of_ble_eq_true rfl) (by first | exact jl_d0 hd rfl | omega) (by first | exact Nat.le_of_ble_eq_true rfl | omega) (by first | exact Nat.le_of_ble_eq_true rfl | omega) ?_
  refine s_X7_order g (by first | exact jl_d1 hd rfl | omega) m2 (fun v2 h2  y2 => sg_K1 ?_)
  refine st_as (fun H r => jk_unR I1.1 r) ?_
  have I2 := jk_IM I1 y2
  refine sg_istore (pc := 1941) dL_law_1941 (by decide) ?_
  refine sg_goto (pc := 1943) (tgt := 2465) dL_law_1943 (by decide) ?_
  refine sg_lsub (lv' := [(0, _), (1, _), (2, _), (3, _), (4, _)]) ⟨rfl, rfl, rfl, rfl, rfl, trivial⟩ ?_
  exact K _ _ _ I2 (by omega) (by omega)

set_option maxRecDepth 100000 in
set_option maxHeartbeats 1000000 in
theorem lw_c43 {w : sg_W} {Q : sg_O → sg_H → Prop} {h : sg_H} (g : sg_G w) (nc : jk_C w) (hJ : jz w) {d mc ms : Nat} (hd : 30 ≤ d) {B M O S j k n : Nat} {xs : List Int} (hI : jk_I w B M O S xs h) (hj : 6 * j + 6 ≤ xs.length) (hl : xs.length ≤ 3072) (hk : k + 1030 ≤ mc) (hn : n + (0 + 0) ≤ ms) (K : ∀ (h' : sg_H) (k' n' : Nat), jk_I w B M O S xs h' → k' ≤ k + 1030 → n' ≤ n + (0 + 0) → sg_R w mi_L_law d mc ms Q 2465 [(0, sg_r S), (1, sg_r B), (2, sg_r M), (3, sg_r O), (4, sg_i (6 * (j : Int)))] [] h' k' n') : sg_R w mi_L_law d mc ms Q 1946 [(0, sg_r S), (1, sg_r B), (2, sg_r M), (3, sg_r O), (4, sg_i (6 * (j : Int)))] [] h k n := by
  refine sg_aload_n (pc := 1946) (j := 1) dL_law_1946 rfl rfl ?_
  refine sg_aload_n (pc := 1947) (j := 0) dL_law_1947 rfl rfl ?_
  refine sg_iload (pc := 1948) dL_law_1948 rfl ?_
  refine sg_iconst (pc := 1950) (z := 1) dL_law_1950 (by decide) ?_
  first | refine sg_iaddB (pc := 1951) dL_law_1951 (by omega) (by omega) ?_ | refine sg_iadd (pc := 1951) dL_law_1951 ?_
  refine sg_iald (pc := 1952) dL_law_1952 hI.2.2.2.2.2.2.2.2.2 rfl (by omega) (jk_x (by omega) (by omega)) ?_
  refine sg_cE1 (pc := 1953) (d' := d - 1) (mc' := 0) (ms' := 0) 6 g dL_law_1953 cb_X5_isCode ml_L_330 mn_X5_isCode rfl mv_X5_isCode (Nat.le_of_ble_eq_true rfl) (ck_oc hI.2.2.1) (Nat.le_of_ble_eq_true rfl) (by first | exact jl_d0 hd rfl | omega) (by first | exact Nat.le_of_ble_eq_true rfl | omega) (by first | exact Nat.le_of_ble_eq_true rfl | omega) ?_
  refine s_X5_isCode (B := B) g (by first | exact jl_d1 hd rfl | omega) (fun v1 c1 => sg_K1 ?_)
  refine sg_pop (pc := 1956) dL_law_1956 rfl ?_
  refine sg_aload_n (pc := 1957) (j := 2) dL_law_1957 rfl rfl ?_
  refine sg_aload_n (pc := 1958) (j := 0) dL_law_1958 rfl rfl ?_
  refine sg_iload (pc := 1959) dL_law_1959 rfl ?_
  refine sg_iconst (pc := 1961) (z := 1) dL_law_1961 (by decide) ?_
  first | refine sg_iaddB (pc := 1962) dL_law_1962 (by omega) (by omega) ?_ | refine sg_iadd (pc := 1962) dL_law_1962 ?_
  refine sg_iald (pc := 1963) dL_law_1963 hI.2.2.2.2.2.2.2.2.2 rfl (by omega) (jk_x (by omega) (by omega)) ?_
  refine st_as (fun H r => jk_tgR (B := B) r) ?_
  have m2 := jk_Im hI
  refine sg_cE1 (pc := 1964) (d' := d - 1) (mc' := 0) (ms' := 0) 8 g dL_law_1964 cb_X7_isCode ml_L_333 mn_X7_isCode rfl mv_X7_isCode (Nat.le_of_ble_eq_true rfl) (md_oc m2) (Nat.le_of_ble_eq_true rfl) (by first | exact jl_d0 hd rfl | omega) (by first | exact Nat.le_of_ble_eq_true rfl | omega) (by first | exact Nat.le_of_ble_eq_true rfl | omega) ?_
  refine s_X7_isCode g (by first | exact jl_d1 hd rfl | omega) m2 (fun v2 h2 c2_0 c2_1 y2 => sg_K1 ?_)
  refine st_as (fun H r => jk_unR hI.1 r) ?_
  have I2 := jk_IM hI y2
  refine sg_pop (pc := 1967) dL_law_1967 rfl ?_
  refine sg_goto (pc := 1968) (tgt := 2465) dL_law_1968 (by decide) ?_
  refine sg_lsub (lv' := [(0, _), (1, _), (2, _), (3, _), (4, _)]) ⟨rfl, rfl, rfl, rfl, rfl, trivial⟩ ?_
  exact K _ _ _ I2 (by omega) (by omega)

set_option maxRecDepth 100000 in
set_option maxHeartbeats 1000000 in
theorem lw_c44 {w : sg_W} {Q : sg_O → sg_H → Prop} {h : sg_H} (g : sg_G w) (nc : jk_C w) (hJ : jz w) {d mc ms : Nat} (hd : 30 ≤ d) {B M O S j k n : Nat} {xs : List Int} (hI : jk_I w B M O S xs h) (hj : 6 * j + 6 ≤ xs.length) (hl : xs.length ≤ 3072) (hk : k + 1030 ≤ mc) (hn : n + (0 + 0) ≤ ms) (K : ∀ (h' : sg_H) (k' n' : Nat), jk_I w B M O S xs h' → k' ≤ k + 1030 → n' ≤ n + (0 + 0) → sg_R w mi_L_law d mc ms Q 2465 [(0, sg_r S), (1, sg_r B), (2, sg_r M), (3, sg_r O), (4, sg_i (6 * (j : Int)))] [] h' k' n') : sg_R w mi_L_law d mc ms Q 1971 [(0, sg_r S), (1, sg_r B), (2, sg_r M), (3, sg_r O), (4, sg_i (6 * (j : Int)))] [] h k n := by
  refine sg_aload_n (pc := 1971) (j := 1) dL_law_1971 rfl rfl ?_
  refine sg_aload_n (pc := 1972) (j := 0) dL_law_1972 rfl rfl ?_
  refine sg_iload (pc := 1973) dL_law_1973 rfl ?_
  refine sg_iconst (pc := 1975) (z := 1) dL_law_1975 (by decide) ?_
  first | refine sg_iaddB (pc := 1976) dL_law_1976 (by omega) (by omega) ?_ | refine sg_iadd (pc := 1976) dL_law_1976 ?_
  refine sg_iald (pc := 1977) dL_law_1977 hI.2.2.2.2.2.2.2.2.2 rfl (by omega) (jk_x (by omega) (by omega)) ?_
  refine sg_cE1 (pc := 1978) (d' := d - 1) (mc' := 0) (ms' := 0) 6 g dL_law_1978 cb_X5_isPlain ml_L_334 mn_X5_isPlain rfl mv_X5_isPlain (Nat.le_of_ble_eq_true rfl) (ck_oc hI.2.2.1) (Nat.le_of_ble_eq_true rfl) (by first | exact jl_d0 hd rfl | omega) (by first | exact Nat.le_of_ble_eq_true rfl | omega) (by first | exact Nat.le_of_ble_eq_true rfl | omega) ?_
  refine s_X5_isPlain (B := B) g (by first | exact jl_d1 hd rfl | omega) (fun v1 c1 => sg_K1 ?_)
  refine sg_pop (pc := 1981) dL_law_1981 rfl ?_
  refine sg_aload_n (pc := 1982) (j := 2) dL_law_1982 rfl rfl ?_
  refine sg_aload_n (pc := 1983) (j := 0) dL_law_1983 rfl rfl ?_
  refine sg_iload (pc := 1984) dL_law_1984 rfl ?_
  refine sg_iconst (pc := 1986) (z := 1) dL_law_1986 (by decide) ?_
  first | refine sg_iaddB (pc := 1987) dL_law_1987 (by omega) (by omega) ?_ | refine sg_iadd (pc := 1987) dL_law_1987 ?_
  refine sg_iald (pc := 1988) dL_law_1988 hI.2.2.2.2.2.2.2.2.2 rfl (by omega) (jk_x (by omega) (by omega)) ?_
  refine st_as (fun H r => jk_tgR (B := B) r) ?_
  have m2 := jk_Im hI
  refine sg_cE1 (pc := 1989) (d' := d - 1) (mc' := 0) (ms' := 0) 8 g dL_law_1989 cb_X7_isPlain ml_L_337 mn_X7_isPlain rfl mv_X7_isPlain (Nat.le_of_ble_eq_true rfl) (md_oc m2) (Nat.le_of_ble_eq_true rfl) (by first | exact jl_d0 hd rfl | omega) (by first | exact Nat.le_of_ble_eq_true rfl | omega) (by first | exact Nat.le_of_ble_eq_true rfl | omega) ?_
  refine s_X7_isPlain g (by first | exact jl_d1 hd rfl | omega) m2 (fun v2 h2 c2_0 c2_1 y2 => sg_K1 ?_)
  refine st_as (fun H r => jk_unR hI.1 r) ?_
  have I2 := jk_IM hI y2
  refine sg_pop (pc := 1992) dL_law_1992 rfl ?_
  refine sg_goto (pc := 1993) (tgt := 2465) dL_law_1993 (by decide) ?_
  refine sg_lsub (lv' := [(0, _), (1, _), (2, _), (3, _), (4, _)]) ⟨rfl, rfl, rfl, rfl, rfl, trivial⟩ ?_
  exact K _ _ _ I2 (by omega) (by omega)

set_option maxRecDepth 100000 in
set_option maxHeartbeats 1000000 in
theorem lw_c45 {w : sg_W} {Q : sg_O → sg_H → Prop} {h : sg_H} (g : sg_G w) (nc : jk_C w) (hJ : jz w) {d mc ms : Nat} (hd : 30 ≤ d) {B M O S j k n : Nat} {xs : List Int} (hI : jk_I w B M O S xs h) (hj : 6 * j + 6 ≤ xs.length) (hl : xs.length ≤ 3072) (hk : k + 1030 ≤ mc) (hn : n + (0 + 0) ≤ ms) (K : ∀ (h' : sg_H) (k' n' : Nat), jk_I w B M O S xs h' → k' ≤ k + 1030 → n' ≤ n + (0 + 0) → sg_R w mi_L_law d mc ms Q 2465 [(0, sg_r S), (1, sg_r B), (2, sg_r M), (3, sg_r O), (4, sg_i (6 * (j : Int)))] [] h' k' n') : sg_R w mi_L_law d mc ms Q 1996 [(0, sg_r S), (1, sg_r B), (2, sg_r M), (3, sg_r O), (4, sg_i (6 * (j : Int)))] [] h k n := by
  refine sg_aload_n (pc := 1996) (j := 1) dL_law_1996 rfl rfl ?_
  refine sg_aload_n (pc := 1997) (j := 0) dL_law_1997 rfl rfl ?_
  refine sg_iload (pc := 1998) dL_law_1998 rfl ?_
  refine sg_iconst (pc := 2000) (z := 1) dL_law_2000 (by decide) ?_
  first | refine sg_iaddB (pc := 2001) dL_law_2001 (by omega) (by omega) ?_ | refine sg_iadd (pc := 2001) dL_law_2001 ?_
  refine sg_iald (pc := 2002) dL_law_2002 hI.2.2.2.2.2.2.2.2.2 rfl (by omega) (jk_x (by omega) (by omega)) ?_
  refine sg_cE1 (pc := 2003) (d' := d - 1) (mc' := 0) (ms' := 0) 6 g dL_law_2003 cb_X5_isWide ml_L_338 mn_X5_isWide rfl mv_X5_isWide (Nat.le_of_ble_eq_true rfl) (ck_oc hI.2.2.1) (Nat.le_of_ble_eq_true rfl) (by first | exact jl_d0 hd rfl | omega) (by first | exact Nat.le_of_ble_eq_true rfl | omega) (by first | exact Nat.le_of_ble_eq_true rfl | omega) ?_
  refine s_X5_isWide (B := B) g (by first | exact jl_d1 hd rfl | omega) (fun v1 c1 => sg_K1 ?_)
  refine sg_pop (pc := 2006) dL_law_2006 rfl ?_
  refine sg_aload_n (pc := 2007) (j := 2) dL_law_2007 rfl rfl ?_
  refine sg_aload_n (pc := 2008) (j := 0) dL_law_2008 rfl rfl ?_
  refine sg_iload (pc := 2009) dL_law_2009 rfl ?_
  refine sg_iconst (pc := 2011) (z := 1) dL_law_2011 (by decide) ?_
  first | refine sg_iaddB (pc := 2012) dL_law_2012 (by omega) (by omega) ?_ | refine sg_iadd (pc := 2012) dL_law_2012 ?_
  refine sg_iald (pc := 2013) dL_law_2013 hI.2.2.2.2.2.2.2.2.2 rfl (by omega) (jk_x (by omega) (by omega)) ?_
  refine st_as (fun H r => jk_tgR (B := B) r) ?_
  have m2 := jk_Im hI
  refine sg_cE1 (pc := 2014) (d' := d - 1) (mc' := 0) (ms' := 0) 8 g dL_law_2014 cb_X7_isWide ml_L_341 mn_X7_isWide rfl mv_X7_isWide (Nat.le_of_ble_eq_true rfl) (md_oc m2) (Nat.le_of_ble_eq_true rfl) (by first | exact jl_d0 hd rfl | omega) (by first | exact Nat.le_of_ble_eq_true rfl | omega) (by first | exact Nat.le_of_ble_eq_true rfl | omega) ?_
  refine s_X7_isWide g (by first | exact jl_d1 hd rfl | omega) m2 (fun v2 h2 c2_0 c2_1 y2 => sg_K1 ?_)
  refine st_as (fun H r => jk_unR hI.1 r) ?_
  have I2 := jk_IM hI y2
  refine sg_pop (pc := 2017) dL_law_2017 rfl ?_
  refine sg_goto (pc := 2018) (tgt := 2465) dL_law_2018 (by decide) ?_
  refine sg_lsub (lv' := [(0, _), (1, _), (2, _), (3, _), (4, _)]) ⟨rfl, rfl, rfl, rfl, rfl, trivial⟩ ?_
  exact K _ _ _ I2 (by omega) (by omega)

set_option maxRecDepth 100000 in
set_option maxHeartbeats 1000000 in
theorem lw_c46 {w : sg_W} {Q : sg_O → sg_H → Prop} {h : sg_H} (g : sg_G w) (nc : jk_C w) (hJ : jz w) {d mc ms : Nat} (hd : 30 ≤ d) {B M O S j k n : Nat} {xs : List Int} (hI : jk_I w B M O S xs h) (hj : 6 * j + 6 ≤ xs.length) (hl : xs.length ≤ 3072) (hk : k + 1030 ≤ mc) (hn : n + (0 + 0) ≤ ms) (K : ∀ (h' : sg_H) (k' n' : Nat), jk_I w B M O S xs h' → k' ≤ k + 1030 → n' ≤ n + (0 + 0) → sg_R w mi_L_law d mc ms Q 2465 [(0, sg_r S), (1, sg_r B), (2, sg_r M), (3, sg_r O), (4, sg_i (6 * (j : Int)))] [] h' k' n') : sg_R w mi_L_law d mc ms Q 2021 [(0, sg_r S), (1, sg_r B), (2, sg_r M), (3, sg_r O), (4, sg_i (6 * (j : Int)))] [] h k n := by
  refine sg_aload_n (pc := 2021) (j := 1) dL_law_2021 rfl rfl ?_
  refine sg_aload_n (pc := 2022) (j := 0) dL_law_2022 rfl rfl ?_
  refine sg_iload (pc := 2023) dL_law_2023 rfl ?_
  refine sg_iconst (pc := 2025) (z := 1) dL_law_2025 (by decide) ?_
  first | refine sg_iaddB (pc := 2026) dL_law_2026 (by omega) (by omega) ?_ | refine sg_iadd (pc := 2026) dL_law_2026 ?_
  refine sg_iald (pc := 2027) dL_law_2027 hI.2.2.2.2.2.2.2.2.2 rfl (by omega) (jk_x (by omega) (by omega)) ?_
  refine sg_cE1 (pc := 2028) (d' := d - 1) (mc' := 0) (ms' := 0) 6 g dL_law_2028 cb_X5_units ml_L_342 mn_X5_units rfl mv_X5_units (Nat.le_of_ble_eq_true rfl) (ck_oc hI.2.2.1) (Nat.le_of_ble_eq_true rfl) (by first | exact jl_d0 hd rfl | omega) (by first | exact Nat.le_of_ble_eq_true rfl | omega) (by first | exact Nat.le_of_ble_eq_true rfl | omega) ?_
  refine s_X5_units (B := B) g (by first | exact jl_d1 hd rfl | omega) (fun v1 c1 => sg_K1 ?_)
  refine sg_pop (pc := 2031) dL_law_2031 rfl ?_
  refine sg_aload_n (pc := 2032) (j := 2) dL_law_2032 rfl rfl ?_
  refine sg_aload_n (pc := 2033) (j := 0) dL_law_2033 rfl rfl ?_
  refine sg_iload (pc := 2034) dL_law_2034 rfl ?_
  refine sg_iconst (pc := 2036) (z := 1) dL_law_2036 (by decide) ?_
  first | refine sg_iaddB (pc := 2037) dL_law_2037 (by omega) (by omega) ?_ | refine sg_iadd (pc := 2037) dL_law_2037 ?_
  refine sg_iald (pc := 2038) dL_law_2038 hI.2.2.2.2.2.2.2.2.2 rfl (by omega) (jk_x (by omega) (by omega)) ?_
  refine st_as (fun H r => jk_tgR (B := B) r) ?_
  have m2 := jk_Im hI
  refine sg_cE1 (pc := 2039) (d' := d - 1) (mc' := 0) (ms' := 0) 8 g dL_law_2039 cb_X7_units ml_L_345 mn_X7_units rfl mv_X7_units (Nat.le_of_ble_eq_true rfl) (md_oc m2) (Nat.le_of_ble_eq_true rfl) (by first | exact jl_d0 hd rfl | omega) (by first | exact Nat.le_of_ble_eq_true rfl | omega) (by first | exact Nat.le_of_ble_eq_true rfl | omega) ?_
  refine s_X7_units g (by first | exact jl_d1 hd rfl | omega) m2 (fun v2 h2 c2_0 y2 => sg_K1 ?_)
  refine st_as (fun H r => jk_unR hI.1 r) ?_
  have I2 := jk_IM hI y2
  refine sg_pop (pc := 2042) dL_law_2042 rfl ?_
  refine sg_goto (pc := 2043) (tgt := 2465) dL_law_2043 (by decide) ?_
  refine sg_lsub (lv' := [(0, _), (1, _), (2, _), (3, _), (4, _)]) ⟨rfl, rfl, rfl, rfl, rfl, trivial⟩ ?_
  exact K _ _ _ I2 (by omega) (by omega)

set_option maxRecDepth 100000 in
set_option maxHeartbeats 1000000 in
theorem lw_c47 {w : sg_W} {Q : sg_O → sg_H → Prop} {h : sg_H} (g : sg_G w) (nc : jk_C w) (hJ : jz w) {d mc ms : Nat} (hd : 30 ≤ d) {B M O S j k n : Nat} {xs : List Int} (hI : jk_I w B M O S xs h) (hj : 6 * j + 6 ≤ xs.length) (hl : xs.length ≤ 3072) (hk : k + 1030 ≤ mc) (hn : n + (48 + 2) ≤ ms) (K : ∀ (h' : sg_H) (k' n' : Nat), jk_I w B M O S xs h' → k' ≤ k + 1030 → n' ≤ n + (48 + 2) → sg_R w mi_L_law d mc ms Q 2465 [(0, sg_r S), (1, sg_r B), (2, sg_r M), (3, sg_r O), (4, sg_i (6 * (j : Int)))] [] h' k' n') : sg_R w mi_L_law d mc ms Q 2046 [(0, sg_r S), (1, sg_r B), (2, sg_r M), (3, sg_r O), (4, sg_i (6 * (j : Int)))] [] h k n := by
  refine sg_aload_n (pc := 2046) (j := 1) dL_law_2046 rfl rfl ?_
  refine sg_aload_n (pc := 2047) (j := 0) dL_law_2047 rfl rfl ?_
  refine sg_iload (pc := 2048) dL_law_2048 rfl ?_
  refine sg_iconst (pc := 2050) (z := 1) dL_law_2050 (by decide) ?_
  first | refine sg_iaddB (pc := 2051) dL_law_2051 (by omega) (by omega) ?_ | refine sg_iadd (pc := 2051) dL_law_2051 ?_
  refine sg_iald (pc := 2052) dL_law_2052 hI.2.2.2.2.2.2.2.2.2 rfl (by omega) (jk_x (by omega) (by omega)) ?_
  refine sg_aload_n (pc := 2053) (j := 0) dL_law_2053 rfl rfl ?_
  refine sg_iload (pc := 2054) dL_law_2054 rfl ?_
  refine sg_iconst (pc := 2056) (z := 2) dL_law_2056 (by decide) ?_
  first | refine sg_iaddB (pc := 2057) dL_law_2057 (by omega) (by omega) ?_ | refine sg_iadd (pc := 2057) dL_law_2057 ?_
  refine sg_iald (pc := 2058) dL_law_2058 hI.2.2.2.2.2.2.2.2.2 rfl (by omega) (jk_x (by omega) (by omega)) ?_
  refine sg_if_eq (pc := 2059) (tgt := 2066) dL_law_2059 (by decide) (fun c2059 => ?_) (fun c2059 => ?_)
  · refine sg_iconst (pc := 2066) (z := 0) dL_law_2066 (by decide) ?_
    refine sg_aload_n (pc := 2067) (j := 3) dL_law_2067 rfl rfl ?_
    refine st_cS4 (pc := 2068) (d' := d - 1) (mc' := 8) (ms' := 48) g dL_law_2068 cb_L_half cw_L_half ml_L_346 ms_L_half (Nat.le_of_ble_eq_true rfl) (by first | exact jl_d0 hd rfl | omega) (by first | exact Nat.le_of_ble_eq_true rfl | omega) (by first | exact Nat.le_of_ble_eq_true rfl | omega) ?_
    refine s_L_half g nc (by omega) hI (fun v1 h1 I1 X1 k1 o1 => sg_K1 ?_)
    refine sg_istore (pc := 2071) dL_law_2071 (by decide) ?_
    refine sg_aload_n (pc := 2073) (j := 2) dL_law_2073 rfl rfl ?_
    refine sg_aload_n (pc := 2074) (j := 0) dL_law_2074 rfl rfl ?_
    refine sg_iload (pc := 2075) dL_law_2075 rfl ?_
    refine sg_iconst (pc := 2077) (z := 1) dL_law_2077 (by decide) ?_
    first | refine sg_iaddB (pc := 2078) dL_law_2078 (by omega) (by omega) ?_ | refine sg_iadd (pc := 2078) dL_law_2078 ?_
    refine sg_iald (pc := 2079) dL_law_2079 I1.2.2.2.2.2.2.2.2.2 rfl (by omega) (jk_x (by omega) (by omega)) ?_
    refine sg_aload_n (pc := 2080) (j := 0) dL_law_2080 rfl rfl ?_
    refine sg_iload (pc := 2081) dL_law_2081 rfl ?_
    refine sg_iconst (pc := 2083) (z := 2) dL_law_2083 (by decide) ?_
    first | refine sg_iaddB (pc := 2084) dL_law_2084 (by omega) (by omega) ?_ | refine sg_iadd (pc := 2084) dL_law_2084 ?_
    refine sg_iald (pc := 2085) dL_law_2085 I1.2.2.2.2.2.2.2.2.2 rfl (by omega) (jk_x (by omega) (by omega)) ?_
    refine sg_if_eq (pc := 2086) (tgt := 2093) dL_law_2086 (by decide) (fun c2086 => ?_) (fun c2086 => ?_)
    · refine sg_iconst (pc := 2093) (z := 0) dL_law_2093 (by decide) ?_
      refine st_as (fun H r => jk_tgR (B := B) r) ?_
      have m2 := jk_Im I1
      refine sg_cE2 (pc := 2094) (d' := d - 1) (mc' := 1) (ms' := 2) 8 g dL_law_2094 cb_X7_half ml_L_348 mn_X7_half rfl mv_X7_half (Nat.le_of_ble_eq_true rfl) (md_oc m2) (Nat.le_of_ble_eq_true rfl) (by first | exact jl_d0 hd rfl | omega) (by first | exact Nat.le_of_ble_eq_true rfl | omega) (by first | exact Nat.le_of_ble_eq_true rfl | omega) ?_
      refine s_X7_half g (by first | exact jl_d1 hd rfl | omega) m2 (fun v2 h2 c2_0 c2_1 y2 => sg_K1 ?_)
      refine st_as (fun H r => jk_unR I1.1 r) ?_
      have I2 := jk_IM I1 y2
      have eo := jk_oM I1 y2
      refine sg_istore (pc := 2097) dL_law_2097 (by decide) ?_
      refine sg_goto (pc := 2099) (tgt := 2465) dL_law_2099 (by decide) ?_
      refine sg_lsub (lv' := [(0, _), (1, _), (2, _), (3, _), (4, _)]) ⟨rfl, rfl, rfl, rfl, rfl, trivial⟩ ?_
      exact K _ _ _ I2 (by omega) (by omega)
    · refine sg_iconst (pc := 2089) (z := 1) dL_law_2089 (by decide) ?_
      refine sg_goto (pc := 2090) (tgt := 2094) dL_law_2090 (by decide) ?_
      refine st_as (fun H r => jk_tgR (B := B) r) ?_
      have m3 := jk_Im I1
      refine sg_cE2 (pc := 2094) (d' := d - 1) (mc' := 1) (ms' := 2) 8 g dL_law_2094 cb_X7_half ml_L_348 mn_X7_half rfl mv_X7_half (Nat.le_of_ble_eq_true rfl) (md_oc m3) (Nat.le_of_ble_eq_true rfl) (by first | exact jl_d0 hd rfl | omega) (by first | exact Nat.le_of_ble_eq_true rfl | omega) (by first | exact Nat.le_of_ble_eq_true rfl | omega) ?_
      refine s_X7_half g (by first | exact jl_d1 hd rfl | omega) m3 (fun v3 h3 c3_0 c3_1 y3 => sg_K1 ?_)
      refine st_as (fun H r => jk_unR I1.1 r) ?_
      have I3 := jk_IM I1 y3
      have eo := jk_oM I1 y3
      refine sg_istore (pc := 2097) dL_law_2097 (by decide) ?_
      refine sg_goto (pc := 2099) (tgt := 2465) dL_law_2099 (by decide) ?_
      refine sg_lsub (lv' := [(0, _), (1, _), (2, _), (3, _), (4, _)]) ⟨rfl, rfl, rfl, rfl, rfl, trivial⟩ ?_
      exact K _ _ _ I3 (by omega) (by omega)
  · refine sg_iconst (pc := 2062) (z := 1) dL_law_2062 (by decide) ?_
    refine sg_goto (pc := 2063) (tgt := 2067) dL_law_2063 (by decide) ?_
    refine sg_aload_n (pc := 2067) (j := 3) dL_law_2067 rfl rfl ?_
    refine st_cS4 (pc := 2068) (d' := d - 1) (mc' := 8) (ms' := 48) g dL_law_2068 cb_L_half cw_L_half ml_L_346 ms_L_half (Nat.le_of_ble_eq_true rfl) (by first | exact jl_d0 hd rfl | omega) (by first | exact Nat.le_of_ble_eq_true rfl | omega) (by first | exact Nat.le_of_ble_eq_true rfl | omega) ?_
    refine s_L_half g nc (by omega) hI (fun v4 h4 I4 X4 k4 o4 => sg_K1 ?_)
    refine sg_istore (pc := 2071) dL_law_2071 (by decide) ?_
    refine sg_aload_n (pc := 2073) (j := 2) dL_law_2073 rfl rfl ?_
    refine sg_aload_n (pc := 2074) (j := 0) dL_law_2074 rfl rfl ?_
    refine sg_iload (pc := 2075) dL_law_2075 rfl ?_
    refine sg_iconst (pc := 2077) (z := 1) dL_law_2077 (by decide) ?_
    first | refine sg_iaddB (pc := 2078) dL_law_2078 (by omega) (by omega) ?_ | refine sg_iadd (pc := 2078) dL_law_2078 ?_
    refine sg_iald (pc := 2079) dL_law_2079 I4.2.2.2.2.2.2.2.2.2 rfl (by omega) (jk_x (by omega) (by omega)) ?_
    refine sg_aload_n (pc := 2080) (j := 0) dL_law_2080 rfl rfl ?_
    refine sg_iload (pc := 2081) dL_law_2081 rfl ?_
    refine sg_iconst (pc := 2083) (z := 2) dL_law_2083 (by decide) ?_
    first | refine sg_iaddB (pc := 2084) dL_law_2084 (by omega) (by omega) ?_ | refine sg_iadd (pc := 2084) dL_law_2084 ?_
    refine sg_iald (pc := 2085) dL_law_2085 I4.2.2.2.2.2.2.2.2.2 rfl (by omega) (jk_x (by omega) (by omega)) ?_
    refine sg_if_eq (pc := 2086) (tgt := 2093) dL_law_2086 (by decide) (fun c2086 => ?_) (fun c2086 => ?_)
    · refine sg_iconst (pc := 2093) (z := 0) dL_law_2093 (by decide) ?_
      refine st_as (fun H r => jk_tgR (B := B) r) ?_
      have m5 := jk_Im I4
      refine sg_cE2 (pc := 2094) (d' := d - 1) (mc' := 1) (ms' := 2) 8 g dL_law_2094 cb_X7_half ml_L_348 mn_X7_half rfl mv_X7_half (Nat.le_of_ble_eq_true rfl) (md_oc m5) (Nat.le_of_ble_eq_true rfl) (by first | exact jl_d0 hd rfl | omega) (by first | exact Nat.le_of_ble_eq_true rfl | omega) (by first | exact Nat.le_of_ble_eq_true rfl | omega) ?_
      refine s_X7_half g (by first | exact jl_d1 hd rfl | omega) m5 (fun v5 h5 c5_0 c5_1 y5 => sg_K1 ?_)
      refine st_as (fun H r => jk_unR I4.1 r) ?_
      have I5 := jk_IM I4 y5
      have eo := jk_oM I4 y5
      refine sg_istore (pc := 2097) dL_law_2097 (by decide) ?_
      refine sg_goto (pc := 2099) (tgt := 2465) dL_law_2099 (by decide) ?_
      refine sg_lsub (lv' := [(0, _), (1, _), (2, _), (3, _), (4, _)]) ⟨rfl, rfl, rfl, rfl, rfl, trivial⟩ ?_
      exact K _ _ _ I5 (by omega) (by omega)
    · refine sg_iconst (pc := 2089) (z := 1) dL_law_2089 (by decide) ?_
      refine sg_goto (pc := 2090) (tgt := 2094) dL_law_2090 (by decide) ?_
      refine st_as (fun H r => jk_tgR (B := B) r) ?_
      have m6 := jk_Im I4
      refine sg_cE2 (pc := 2094) (d' := d - 1) (mc' := 1) (ms' := 2) 8 g dL_law_2094 cb_X7_half ml_L_348 mn_X7_half rfl mv_X7_half (Nat.le_of_ble_eq_true rfl) (md_oc m6) (Nat.le_of_ble_eq_true rfl) (by first | exact jl_d0 hd rfl | omega) (by first | exact Nat.le_of_ble_eq_true rfl | omega) (by first | exact Nat.le_of_ble_eq_true rfl | omega) ?_
      refine s_X7_half g (by first | exact jl_d1 hd rfl | omega) m6 (fun v6 h6 c6_0 c6_1 y6 => sg_K1 ?_)
      refine st_as (fun H r => jk_unR I4.1 r) ?_
      have I6 := jk_IM I4 y6
      have eo := jk_oM I4 y6
      refine sg_istore (pc := 2097) dL_law_2097 (by decide) ?_
      refine sg_goto (pc := 2099) (tgt := 2465) dL_law_2099 (by decide) ?_
      refine sg_lsub (lv' := [(0, _), (1, _), (2, _), (3, _), (4, _)]) ⟨rfl, rfl, rfl, rfl, rfl, trivial⟩ ?_
      exact K _ _ _ I6 (by omega) (by omega)

set_option maxRecDepth 100000 in
set_option maxHeartbeats 1000000 in
theorem lw_c48 {w : sg_W} {Q : sg_O → sg_H → Prop} {h : sg_H} (g : sg_G w) (nc : jk_C w) (hJ : jz w) {d mc ms : Nat} (hd : 30 ≤ d) {B M O S j k n : Nat} {xs : List Int} (hI : jk_I w B M O S xs h) (hj : 6 * j + 6 ≤ xs.length) (hl : xs.length ≤ 3072) (hk : k + 1030 ≤ mc) (hn : n + (48 + 0) ≤ ms) (K : ∀ (h' : sg_H) (k' n' : Nat), jk_I w B M O S xs h' → k' ≤ k + 1030 → n' ≤ n + (48 + 0) → sg_R w mi_L_law d mc ms Q 2465 [(0, sg_r S), (1, sg_r B), (2, sg_r M), (3, sg_r O), (4, sg_i (6 * (j : Int)))] [] h' k' n') : sg_R w mi_L_law d mc ms Q 2102 [(0, sg_r S), (1, sg_r B), (2, sg_r M), (3, sg_r O), (4, sg_i (6 * (j : Int)))] [] h k n := by
  refine sg_aload_n (pc := 2102) (j := 1) dL_law_2102 rfl rfl ?_
  refine sg_aload_n (pc := 2103) (j := 0) dL_law_2103 rfl rfl ?_
  refine sg_iload (pc := 2104) dL_law_2104 rfl ?_
  refine sg_iconst (pc := 2106) (z := 1) dL_law_2106 (by decide) ?_
  first | refine sg_iaddB (pc := 2107) dL_law_2107 (by omega) (by omega) ?_ | refine sg_iadd (pc := 2107) dL_law_2107 ?_
  refine sg_iald (pc := 2108) dL_law_2108 hI.2.2.2.2.2.2.2.2.2 rfl (by omega) (jk_x (by omega) (by omega)) ?_
  refine sg_aload_n (pc := 2109) (j := 0) dL_law_2109 rfl rfl ?_
  refine sg_iload (pc := 2110) dL_law_2110 rfl ?_
  refine sg_iconst (pc := 2112) (z := 2) dL_law_2112 (by decide) ?_
  first | refine sg_iaddB (pc := 2113) dL_law_2113 (by omega) (by omega) ?_ | refine sg_iadd (pc := 2113) dL_law_2113 ?_
  refine sg_iald (pc := 2114) dL_law_2114 hI.2.2.2.2.2.2.2.2.2 rfl (by omega) (jk_x (by omega) (by omega)) ?_
  refine sg_aload_n (pc := 2115) (j := 3) dL_law_2115 rfl rfl ?_
  refine st_cS4 (pc := 2116) (d' := d - 1) (mc' := 8) (ms' := 48) g dL_law_2116 cb_L_code cw_L_code ml_L_349 ms_L_code (Nat.le_of_ble_eq_true rfl) (by first | exact jl_d0 hd rfl | omega) (by first | exact Nat.le_of_ble_eq_true rfl | omega) (by first | exact Nat.le_of_ble_eq_true rfl | omega) ?_
  refine s_L_code g nc (by omega) hI (fun v1 h1 I1 X1 k1 o1 => sg_K1 ?_)
  refine sg_istore (pc := 2119) dL_law_2119 (by decide) ?_
  refine sg_aload_n (pc := 2121) (j := 2) dL_law_2121 rfl rfl ?_
  refine sg_aload_n (pc := 2122) (j := 0) dL_law_2122 rfl rfl ?_
  refine sg_iload (pc := 2123) dL_law_2123 rfl ?_
  refine sg_iconst (pc := 2125) (z := 1) dL_law_2125 (by decide) ?_
  first | refine sg_iaddB (pc := 2126) dL_law_2126 (by omega) (by omega) ?_ | refine sg_iadd (pc := 2126) dL_law_2126 ?_
  refine sg_iald (pc := 2127) dL_law_2127 I1.2.2.2.2.2.2.2.2.2 rfl (by omega) (jk_x (by omega) (by omega)) ?_
  refine sg_aload_n (pc := 2128) (j := 0) dL_law_2128 rfl rfl ?_
  refine sg_iload (pc := 2129) dL_law_2129 rfl ?_
  refine sg_iconst (pc := 2131) (z := 2) dL_law_2131 (by decide) ?_
  first | refine sg_iaddB (pc := 2132) dL_law_2132 (by omega) (by omega) ?_ | refine sg_iadd (pc := 2132) dL_law_2132 ?_
  refine sg_iald (pc := 2133) dL_law_2133 I1.2.2.2.2.2.2.2.2.2 rfl (by omega) (jk_x (by omega) (by omega)) ?_
  refine st_as (fun H r => jk_tgR (B := B) r) ?_
  have m2 := jk_Im I1
  refine sg_cE2 (pc := 2134) (d' := d - 1) (mc' := 0) (ms' := 0) 8 g dL_law_2134 cb_X7_code ml_L_351 mn_X7_code rfl mv_X7_code (Nat.le_of_ble_eq_true rfl) (md_oc m2) (Nat.le_of_ble_eq_true rfl) (by first | exact jl_d0 hd rfl | omega) (by first | exact Nat.le_of_ble_eq_true rfl | omega) (by first | exact Nat.le_of_ble_eq_true rfl | omega) ?_
  refine s_X7_code g (by first | exact jl_d1 hd rfl | omega) m2 (fun v2 h2 c2_0 c2_1 y2 => sg_K1 ?_)
  refine st_as (fun H r => jk_unR I1.1 r) ?_
  have I2 := jk_IM I1 y2
  have eo := jk_oM I1 y2
  refine sg_istore (pc := 2137) dL_law_2137 (by decide) ?_
  refine sg_goto (pc := 2139) (tgt := 2465) dL_law_2139 (by decide) ?_
  refine sg_lsub (lv' := [(0, _), (1, _), (2, _), (3, _), (4, _)]) ⟨rfl, rfl, rfl, rfl, rfl, trivial⟩ ?_
  exact K _ _ _ I2 (by omega) (by omega)

set_option maxRecDepth 100000 in
set_option maxHeartbeats 1000000 in
theorem lw_c49 {w : sg_W} {Q : sg_O → sg_H → Prop} {h : sg_H} (g : sg_G w) (nc : jk_C w) (hJ : jz w) {d mc ms : Nat} (hd : 30 ≤ d) {B M O S j k n : Nat} {xs : List Int} (hI : jk_I w B M O S xs h) (hj : 6 * j + 6 ≤ xs.length) (hl : xs.length ≤ 3072) (hk : k + 1030 ≤ mc) (hn : n + (48 + 0) ≤ ms) (K : ∀ (h' : sg_H) (k' n' : Nat), jk_I w B M O S xs h' → k' ≤ k + 1030 → n' ≤ n + (48 + 0) → sg_R w mi_L_law d mc ms Q 2465 [(0, sg_r S), (1, sg_r B), (2, sg_r M), (3, sg_r O), (4, sg_i (6 * (j : Int)))] [] h' k' n') : sg_R w mi_L_law d mc ms Q 2142 [(0, sg_r S), (1, sg_r B), (2, sg_r M), (3, sg_r O), (4, sg_i (6 * (j : Int)))] [] h k n := by
  refine sg_aload_n (pc := 2142) (j := 1) dL_law_2142 rfl rfl ?_
  refine sg_aload_n (pc := 2143) (j := 0) dL_law_2143 rfl rfl ?_
  refine sg_iload (pc := 2144) dL_law_2144 rfl ?_
  refine sg_iconst (pc := 2146) (z := 1) dL_law_2146 (by decide) ?_
  first | refine sg_iaddB (pc := 2147) dL_law_2147 (by omega) (by omega) ?_ | refine sg_iadd (pc := 2147) dL_law_2147 ?_
  refine sg_iald (pc := 2148) dL_law_2148 hI.2.2.2.2.2.2.2.2.2 rfl (by omega) (jk_x (by omega) (by omega)) ?_
  refine sg_aload_n (pc := 2149) (j := 0) dL_law_2149 rfl rfl ?_
  refine sg_iload (pc := 2150) dL_law_2150 rfl ?_
  refine sg_iconst (pc := 2152) (z := 2) dL_law_2152 (by decide) ?_
  first | refine sg_iaddB (pc := 2153) dL_law_2153 (by omega) (by omega) ?_ | refine sg_iadd (pc := 2153) dL_law_2153 ?_
  refine sg_iald (pc := 2154) dL_law_2154 hI.2.2.2.2.2.2.2.2.2 rfl (by omega) (jk_x (by omega) (by omega)) ?_
  refine sg_aload_n (pc := 2155) (j := 3) dL_law_2155 rfl rfl ?_
  refine st_cS4 (pc := 2156) (d' := d - 1) (mc' := 8) (ms' := 48) g dL_law_2156 cb_L_ofUnit cw_L_ofUnit ml_L_352 ms_L_ofUnit (Nat.le_of_ble_eq_true rfl) (by first | exact jl_d0 hd rfl | omega) (by first | exact Nat.le_of_ble_eq_true rfl | omega) (by first | exact Nat.le_of_ble_eq_true rfl | omega) ?_
  refine s_L_ofUnit g nc (by omega) hI (fun v1 h1 I1 X1 k1 o1 => sg_K1 ?_)
  refine sg_istore (pc := 2159) dL_law_2159 (by decide) ?_
  refine sg_aload_n (pc := 2161) (j := 2) dL_law_2161 rfl rfl ?_
  refine sg_aload_n (pc := 2162) (j := 0) dL_law_2162 rfl rfl ?_
  refine sg_iload (pc := 2163) dL_law_2163 rfl ?_
  refine sg_iconst (pc := 2165) (z := 1) dL_law_2165 (by decide) ?_
  first | refine sg_iaddB (pc := 2166) dL_law_2166 (by omega) (by omega) ?_ | refine sg_iadd (pc := 2166) dL_law_2166 ?_
  refine sg_iald (pc := 2167) dL_law_2167 I1.2.2.2.2.2.2.2.2.2 rfl (by omega) (jk_x (by omega) (by omega)) ?_
  refine sg_aload_n (pc := 2168) (j := 0) dL_law_2168 rfl rfl ?_
  refine sg_iload (pc := 2169) dL_law_2169 rfl ?_
  refine sg_iconst (pc := 2171) (z := 2) dL_law_2171 (by decide) ?_
  first | refine sg_iaddB (pc := 2172) dL_law_2172 (by omega) (by omega) ?_ | refine sg_iadd (pc := 2172) dL_law_2172 ?_
  refine sg_iald (pc := 2173) dL_law_2173 I1.2.2.2.2.2.2.2.2.2 rfl (by omega) (jk_x (by omega) (by omega)) ?_
  refine st_as (fun H r => jk_tgR (B := B) r) ?_
  have m2 := jk_Im I1
  refine sg_cE2 (pc := 2174) (d' := d - 1) (mc' := 0) (ms' := 0) 8 g dL_law_2174 cb_X7_ofUnit ml_L_354 mn_X7_ofUnit rfl mv_X7_ofUnit (Nat.le_of_ble_eq_true rfl) (md_oc m2) (Nat.le_of_ble_eq_true rfl) (by first | exact jl_d0 hd rfl | omega) (by first | exact Nat.le_of_ble_eq_true rfl | omega) (by first | exact Nat.le_of_ble_eq_true rfl | omega) ?_
  refine s_X7_ofUnit g (by first | exact jl_d1 hd rfl | omega) m2 (fun v2 h2 c2_0 c2_1 y2 => sg_K1 ?_)
  refine st_as (fun H r => jk_unR I1.1 r) ?_
  have I2 := jk_IM I1 y2
  have eo := jk_oM I1 y2
  refine sg_istore (pc := 2177) dL_law_2177 (by decide) ?_
  refine sg_aload_n (pc := 2179) (j := 2) dL_law_2179 rfl rfl ?_
  obtain ⟨tv, eT⟩ := jk_th I2
  refine sg_cE0 (pc := 2180) (d' := d - 1) (mc' := 0) (ms' := 0) 8 g dL_law_2180 cb_X7_thrown ml_L_355 mn_X7_thrown rfl mv_X7_thrown (Nat.le_of_ble_eq_true rfl) ⟨_, eT⟩ (Nat.le_of_ble_eq_true rfl) (by first | exact jl_d0 hd rfl | omega) (by first | exact Nat.le_of_ble_eq_true rfl | omega) (by first | exact Nat.le_of_ble_eq_true rfl | omega) ?_
  refine s_X7_thrown g (by first | exact jl_d1 hd rfl | omega) eT (sg_K1 ?_)
  refine sg_iload (pc := 2183) dL_law_2183 rfl ?_
  refine sg_icmp_eq (pc := 2185) (tgt := 2190) dL_law_2185 (by decide) (fun ct => ?_) (fun ct => absurd ?_ ct)
  · refine sg_iload (pc := 2190) dL_law_2190 rfl ?_
    refine sg_if_ne (pc := 2192) (tgt := 2208) dL_law_2192 (by decide) (fun c2192 => ?_) (fun c2192 => ?_)
    · refine sg_goto (pc := 2208) (tgt := 2465) dL_law_2208 (by decide) ?_
      refine sg_lsub (lv' := [(0, _), (1, _), (2, _), (3, _), (4, _)]) ⟨rfl, rfl, rfl, rfl, rfl, trivial⟩ ?_
      exact K _ _ _ I2 (by omega) (by omega)
    · refine sg_aload_n (pc := 2195) (j := 3) dL_law_2195 rfl rfl ?_
      obtain ⟨ro, eO⟩ := jk_oz I2
      refine sg_getN (pc := 2196) g dL_law_2196 fk_L_13 eO rfl rfl ?_
      refine sg_iload (pc := 2199) dL_law_2199 rfl ?_
      refine sg_i2l (pc := 2201) dL_law_2201 ?_
      refine sg_lcmp (pc := 2202) dL_law_2202 (fun zc ec => ?_)
      refine sg_if_eq (pc := 2203) (tgt := 2208) dL_law_2203 (by decide) (fun cq => ?_) (fun cq => absurd (ec.mpr ?_) cq)
      · refine sg_goto (pc := 2208) (tgt := 2465) dL_law_2208 (by decide) ?_
        refine sg_lsub (lv' := [(0, _), (1, _), (2, _), (3, _), (4, _)]) ⟨rfl, rfl, rfl, rfl, rfl, trivial⟩ ?_
        exact K _ _ _ I2 (by omega) (by omega)
      · rw [eo]
        omega
  · omega

set_option maxRecDepth 100000 in
set_option maxHeartbeats 1000000 in
theorem lw_c50 {w : sg_W} {Q : sg_O → sg_H → Prop} {h : sg_H} (g : sg_G w) (nc : jk_C w) (hJ : jz w) {d mc ms : Nat} (hd : 30 ≤ d) {B M O S j k n : Nat} {xs : List Int} (hI : jk_I w B M O S xs h) (hj : 6 * j + 6 ≤ xs.length) (hl : xs.length ≤ 3072) (hk : k + 1030 ≤ mc) (hn : n + (48 + 0) ≤ ms) (K : ∀ (h' : sg_H) (k' n' : Nat), jk_I w B M O S xs h' → k' ≤ k + 1030 → n' ≤ n + (48 + 0) → sg_R w mi_L_law d mc ms Q 2465 [(0, sg_r S), (1, sg_r B), (2, sg_r M), (3, sg_r O), (4, sg_i (6 * (j : Int)))] [] h' k' n') : sg_R w mi_L_law d mc ms Q 2211 [(0, sg_r S), (1, sg_r B), (2, sg_r M), (3, sg_r O), (4, sg_i (6 * (j : Int)))] [] h k n := by
  refine sg_aload_n (pc := 2211) (j := 1) dL_law_2211 rfl rfl ?_
  refine sg_aload_n (pc := 2212) (j := 0) dL_law_2212 rfl rfl ?_
  refine sg_iload (pc := 2213) dL_law_2213 rfl ?_
  refine sg_iconst (pc := 2215) (z := 1) dL_law_2215 (by decide) ?_
  first | refine sg_iaddB (pc := 2216) dL_law_2216 (by omega) (by omega) ?_ | refine sg_iadd (pc := 2216) dL_law_2216 ?_
  refine sg_iald (pc := 2217) dL_law_2217 hI.2.2.2.2.2.2.2.2.2 rfl (by omega) (jk_x (by omega) (by omega)) ?_
  refine sg_aload_n (pc := 2218) (j := 0) dL_law_2218 rfl rfl ?_
  refine sg_iload (pc := 2219) dL_law_2219 rfl ?_
  refine sg_iconst (pc := 2221) (z := 2) dL_law_2221 (by decide) ?_
  first | refine sg_iaddB (pc := 2222) dL_law_2222 (by omega) (by omega) ?_ | refine sg_iadd (pc := 2222) dL_law_2222 ?_
  refine sg_iald (pc := 2223) dL_law_2223 hI.2.2.2.2.2.2.2.2.2 rfl (by omega) (jk_x (by omega) (by omega)) ?_
  refine sg_aload_n (pc := 2224) (j := 3) dL_law_2224 rfl rfl ?_
  refine st_cS4 (pc := 2225) (d' := d - 1) (mc' := 8) (ms' := 48) g dL_law_2225 cb_L_compare cw_L_compare ml_L_358 ms_L_compare (Nat.le_of_ble_eq_true rfl) (by first | exact jl_d0 hd rfl | omega) (by first | exact Nat.le_of_ble_eq_true rfl | omega) (by first | exact Nat.le_of_ble_eq_true rfl | omega) ?_
  refine s_L_compare g nc (by omega) hI (fun v1 h1 I1 X1 k1 o1 => sg_K1 ?_)
  refine sg_istore (pc := 2228) dL_law_2228 (by decide) ?_
  refine sg_aload_n (pc := 2230) (j := 2) dL_law_2230 rfl rfl ?_
  refine sg_aload_n (pc := 2231) (j := 0) dL_law_2231 rfl rfl ?_
  refine sg_iload (pc := 2232) dL_law_2232 rfl ?_
  refine sg_iconst (pc := 2234) (z := 1) dL_law_2234 (by decide) ?_
  first | refine sg_iaddB (pc := 2235) dL_law_2235 (by omega) (by omega) ?_ | refine sg_iadd (pc := 2235) dL_law_2235 ?_
  refine sg_iald (pc := 2236) dL_law_2236 I1.2.2.2.2.2.2.2.2.2 rfl (by omega) (jk_x (by omega) (by omega)) ?_
  refine sg_aload_n (pc := 2237) (j := 0) dL_law_2237 rfl rfl ?_
  refine sg_iload (pc := 2238) dL_law_2238 rfl ?_
  refine sg_iconst (pc := 2240) (z := 2) dL_law_2240 (by decide) ?_
  first | refine sg_iaddB (pc := 2241) dL_law_2241 (by omega) (by omega) ?_ | refine sg_iadd (pc := 2241) dL_law_2241 ?_
  refine sg_iald (pc := 2242) dL_law_2242 I1.2.2.2.2.2.2.2.2.2 rfl (by omega) (jk_x (by omega) (by omega)) ?_
  refine st_as (fun H r => jk_tgR (B := B) r) ?_
  have m2 := jk_Im I1
  refine sg_cE2 (pc := 2243) (d' := d - 1) (mc' := 0) (ms' := 0) 8 g dL_law_2243 cb_X7_compare ml_L_360 mn_X7_compare rfl mv_X7_compare (Nat.le_of_ble_eq_true rfl) (md_oc m2) (Nat.le_of_ble_eq_true rfl) (by first | exact jl_d0 hd rfl | omega) (by first | exact Nat.le_of_ble_eq_true rfl | omega) (by first | exact Nat.le_of_ble_eq_true rfl | omega) ?_
  refine s_X7_compare g (by first | exact jl_d1 hd rfl | omega) m2 (fun v2 h2 c2_0 c2_1 y2 => sg_K1 ?_)
  refine st_as (fun H r => jk_unR I1.1 r) ?_
  have I2 := jk_IM I1 y2
  have eo := jk_oM I1 y2
  refine sg_istore (pc := 2246) dL_law_2246 (by decide) ?_
  refine sg_goto (pc := 2248) (tgt := 2465) dL_law_2248 (by decide) ?_
  refine sg_lsub (lv' := [(0, _), (1, _), (2, _), (3, _), (4, _)]) ⟨rfl, rfl, rfl, rfl, rfl, trivial⟩ ?_
  exact K _ _ _ I2 (by omega) (by omega)

set_option maxRecDepth 100000 in
set_option maxHeartbeats 1000000 in
theorem lw_c51 {w : sg_W} {Q : sg_O → sg_H → Prop} {h : sg_H} (g : sg_G w) (nc : jk_C w) (hJ : jz w) {d mc ms : Nat} (hd : 30 ≤ d) {B M O S j k n : Nat} {xs : List Int} (hI : jk_I w B M O S xs h) (hj : 6 * j + 6 ≤ xs.length) (hl : xs.length ≤ 3072) (hk : k + 1030 ≤ mc) (hn : n + (48 + 1350) ≤ ms) (K : ∀ (h' : sg_H) (k' n' : Nat), jk_I w B M O S xs h' → k' ≤ k + 1030 → n' ≤ n + (48 + 1350) → sg_R w mi_L_law d mc ms Q 2465 [(0, sg_r S), (1, sg_r B), (2, sg_r M), (3, sg_r O), (4, sg_i (6 * (j : Int)))] [] h' k' n') : sg_R w mi_L_law d mc ms Q 2251 [(0, sg_r S), (1, sg_r B), (2, sg_r M), (3, sg_r O), (4, sg_i (6 * (j : Int)))] [] h k n := by
  refine sg_aload_n (pc := 2251) (j := 1) dL_law_2251 rfl rfl ?_
  refine sg_aload_n (pc := 2252) (j := 0) dL_law_2252 rfl rfl ?_
  refine sg_iload (pc := 2253) dL_law_2253 rfl ?_
  refine sg_iconst (pc := 2255) (z := 1) dL_law_2255 (by decide) ?_
  first | refine sg_iaddB (pc := 2256) dL_law_2256 (by omega) (by omega) ?_ | refine sg_iadd (pc := 2256) dL_law_2256 ?_
  refine sg_iald (pc := 2257) dL_law_2257 hI.2.2.2.2.2.2.2.2.2 rfl (by omega) (jk_x (by omega) (by omega)) ?_
  refine sg_aload_n (pc := 2258) (j := 0) dL_law_2258 rfl rfl ?_
  refine sg_iload (pc := 2259) dL_law_2259 rfl ?_
  refine sg_iconst (pc := 2261) (z := 2) dL_law_2261 (by decide) ?_
  first | refine sg_iaddB (pc := 2262) dL_law_2262 (by omega) (by omega) ?_ | refine sg_iadd (pc := 2262) dL_law_2262 ?_
  refine sg_iald (pc := 2263) dL_law_2263 hI.2.2.2.2.2.2.2.2.2 rfl (by omega) (jk_x (by omega) (by omega)) ?_
  refine sg_aload_n (pc := 2264) (j := 3) dL_law_2264 rfl rfl ?_
  refine st_cS4 (pc := 2265) (d' := d - 1) (mc' := 8) (ms' := 48) g dL_law_2265 cb_L_ofTrack cw_L_ofTrack ml_L_361 ms_L_ofTrack (Nat.le_of_ble_eq_true rfl) (by first | exact jl_d0 hd rfl | omega) (by first | exact Nat.le_of_ble_eq_true rfl | omega) (by first | exact Nat.le_of_ble_eq_true rfl | omega) ?_
  refine s_L_ofTrack g nc (by omega) hI (fun v1 h1 I1 X1 => sg_K1 ?_)
  refine sg_istore (pc := 2268) dL_law_2268 (by decide) ?_
  refine sg_aload_n (pc := 2270) (j := 2) dL_law_2270 rfl rfl ?_
  refine sg_aload_n (pc := 2271) (j := 0) dL_law_2271 rfl rfl ?_
  refine sg_iload (pc := 2272) dL_law_2272 rfl ?_
  refine sg_iconst (pc := 2274) (z := 1) dL_law_2274 (by decide) ?_
  first | refine sg_iaddB (pc := 2275) dL_law_2275 (by omega) (by omega) ?_ | refine sg_iadd (pc := 2275) dL_law_2275 ?_
  refine sg_iald (pc := 2276) dL_law_2276 I1.2.2.2.2.2.2.2.2.2 rfl (by omega) (jk_x (by omega) (by omega)) ?_
  refine sg_aload_n (pc := 2277) (j := 0) dL_law_2277 rfl rfl ?_
  refine sg_iload (pc := 2278) dL_law_2278 rfl ?_
  refine sg_iconst (pc := 2280) (z := 2) dL_law_2280 (by decide) ?_
  first | refine sg_iaddB (pc := 2281) dL_law_2281 (by omega) (by omega) ?_ | refine sg_iadd (pc := 2281) dL_law_2281 ?_
  refine sg_iald (pc := 2282) dL_law_2282 I1.2.2.2.2.2.2.2.2.2 rfl (by omega) (jk_x (by omega) (by omega)) ?_
  refine st_as (fun H r => jk_tgR (B := B) r) ?_
  have m2 := jk_Im I1
  refine sg_cE2 (pc := 2283) (d' := d - 1) (mc' := 152) (ms' := 1350) 8 g dL_law_2283 cb_X7_ofTrack ml_L_363 mn_X7_ofTrack rfl mv_X7_ofTrack (Nat.le_of_ble_eq_true rfl) (md_oc m2) (Nat.le_of_ble_eq_true rfl) (by first | exact jl_d0 hd rfl | omega) (by first | exact Nat.le_of_ble_eq_true rfl | omega) (by first | exact Nat.le_of_ble_eq_true rfl | omega) ?_
  refine s_X7_ofTrack g (by first | exact jl_d1 hd rfl | omega) m2 (fun v2 h2  y2 => sg_K1 ?_)
  refine st_as (fun H r => jk_unR I1.1 r) ?_
  have I2 := jk_IM I1 y2
  refine sg_istore (pc := 2286) dL_law_2286 (by decide) ?_
  refine sg_goto (pc := 2288) (tgt := 2465) dL_law_2288 (by decide) ?_
  refine sg_lsub (lv' := [(0, _), (1, _), (2, _), (3, _), (4, _)]) ⟨rfl, rfl, rfl, rfl, rfl, trivial⟩ ?_
  exact K _ _ _ I2 (by omega) (by omega)

set_option maxRecDepth 100000 in
set_option maxHeartbeats 1000000 in
theorem lw_c52 {w : sg_W} {Q : sg_O → sg_H → Prop} {h : sg_H} (g : sg_G w) (nc : jk_C w) (hJ : jz w) {d mc ms : Nat} (hd : 30 ≤ d) {B M O S j k n : Nat} {xs : List Int} (hI : jk_I w B M O S xs h) (hj : 6 * j + 6 ≤ xs.length) (hl : xs.length ≤ 3072) (hk : k + 1030 ≤ mc) (hn : n + (48 + 0) ≤ ms) (K : ∀ (h' : sg_H) (k' n' : Nat), jk_I w B M O S xs h' → k' ≤ k + 1030 → n' ≤ n + (48 + 0) → sg_R w mi_L_law d mc ms Q 2465 [(0, sg_r S), (1, sg_r B), (2, sg_r M), (3, sg_r O), (4, sg_i (6 * (j : Int)))] [] h' k' n') : sg_R w mi_L_law d mc ms Q 2291 [(0, sg_r S), (1, sg_r B), (2, sg_r M), (3, sg_r O), (4, sg_i (6 * (j : Int)))] [] h k n := by
  refine sg_aload_n (pc := 2291) (j := 1) dL_law_2291 rfl rfl ?_
  refine sg_aload_n (pc := 2292) (j := 0) dL_law_2292 rfl rfl ?_
  refine sg_iload (pc := 2293) dL_law_2293 rfl ?_
  refine sg_iconst (pc := 2295) (z := 1) dL_law_2295 (by decide) ?_
  first | refine sg_iaddB (pc := 2296) dL_law_2296 (by omega) (by omega) ?_ | refine sg_iadd (pc := 2296) dL_law_2296 ?_
  refine sg_iald (pc := 2297) dL_law_2297 hI.2.2.2.2.2.2.2.2.2 rfl (by omega) (jk_x (by omega) (by omega)) ?_
  refine sg_aload_n (pc := 2298) (j := 0) dL_law_2298 rfl rfl ?_
  refine sg_iload (pc := 2299) dL_law_2299 rfl ?_
  refine sg_iconst (pc := 2301) (z := 2) dL_law_2301 (by decide) ?_
  first | refine sg_iaddB (pc := 2302) dL_law_2302 (by omega) (by omega) ?_ | refine sg_iadd (pc := 2302) dL_law_2302 ?_
  refine sg_iald (pc := 2303) dL_law_2303 hI.2.2.2.2.2.2.2.2.2 rfl (by omega) (jk_x (by omega) (by omega)) ?_
  refine sg_aload_n (pc := 2304) (j := 3) dL_law_2304 rfl rfl ?_
  refine st_cS4 (pc := 2305) (d' := d - 1) (mc' := 8) (ms' := 48) g dL_law_2305 cb_L_unit cw_L_unit ml_L_364 ms_L_unit (Nat.le_of_ble_eq_true rfl) (by first | exact jl_d0 hd rfl | omega) (by first | exact Nat.le_of_ble_eq_true rfl | omega) (by first | exact Nat.le_of_ble_eq_true rfl | omega) ?_
  refine s_L_unit g nc (by omega) hI (fun v1 h1 I1 X1 => sg_K1 ?_)
  refine sg_istore (pc := 2308) dL_law_2308 (by decide) ?_
  refine sg_aload_n (pc := 2310) (j := 2) dL_law_2310 rfl rfl ?_
  refine sg_aload_n (pc := 2311) (j := 0) dL_law_2311 rfl rfl ?_
  refine sg_iload (pc := 2312) dL_law_2312 rfl ?_
  refine sg_iconst (pc := 2314) (z := 1) dL_law_2314 (by decide) ?_
  first | refine sg_iaddB (pc := 2315) dL_law_2315 (by omega) (by omega) ?_ | refine sg_iadd (pc := 2315) dL_law_2315 ?_
  refine sg_iald (pc := 2316) dL_law_2316 I1.2.2.2.2.2.2.2.2.2 rfl (by omega) (jk_x (by omega) (by omega)) ?_
  refine sg_aload_n (pc := 2317) (j := 0) dL_law_2317 rfl rfl ?_
  refine sg_iload (pc := 2318) dL_law_2318 rfl ?_
  refine sg_iconst (pc := 2320) (z := 2) dL_law_2320 (by decide) ?_
  first | refine sg_iaddB (pc := 2321) dL_law_2321 (by omega) (by omega) ?_ | refine sg_iadd (pc := 2321) dL_law_2321 ?_
  refine sg_iald (pc := 2322) dL_law_2322 I1.2.2.2.2.2.2.2.2.2 rfl (by omega) (jk_x (by omega) (by omega)) ?_
  refine st_as (fun H r => jk_tgR (B := B) r) ?_
  have m2 := jk_Im I1
  refine sg_cE2 (pc := 2323) (d' := d - 1) (mc' := 0) (ms' := 0) 8 g dL_law_2323 cb_X7_unit ml_L_366 mn_X7_unit rfl mv_X7_unit (Nat.le_of_ble_eq_true rfl) (md_oc m2) (Nat.le_of_ble_eq_true rfl) (by first | exact jl_d0 hd rfl | omega) (by first | exact Nat.le_of_ble_eq_true rfl | omega) (by first | exact Nat.le_of_ble_eq_true rfl | omega) ?_
  refine s_X7_unit g (by first | exact jl_d1 hd rfl | omega) m2 (fun v2 h2  y2 => sg_K1 ?_)
  refine st_as (fun H r => jk_unR I1.1 r) ?_
  have I2 := jk_IM I1 y2
  refine sg_istore (pc := 2326) dL_law_2326 (by decide) ?_
  refine sg_goto (pc := 2328) (tgt := 2465) dL_law_2328 (by decide) ?_
  refine sg_lsub (lv' := [(0, _), (1, _), (2, _), (3, _), (4, _)]) ⟨rfl, rfl, rfl, rfl, rfl, trivial⟩ ?_
  exact K _ _ _ I2 (by omega) (by omega)

set_option maxRecDepth 100000 in
set_option maxHeartbeats 1000000 in
theorem lw_c53 {w : sg_W} {Q : sg_O → sg_H → Prop} {h : sg_H} (g : sg_G w) (nc : jk_C w) (hJ : jz w) {d mc ms : Nat} (hd : 30 ≤ d) {B M O S j k n : Nat} {xs : List Int} (hI : jk_I w B M O S xs h) (hj : 6 * j + 6 ≤ xs.length) (hl : xs.length ≤ 3072) (hk : k + 1030 ≤ mc) (hn : n + (48 + 0) ≤ ms) (K : ∀ (h' : sg_H) (k' n' : Nat), jk_I w B M O S xs h' → k' ≤ k + 1030 → n' ≤ n + (48 + 0) → sg_R w mi_L_law d mc ms Q 2465 [(0, sg_r S), (1, sg_r B), (2, sg_r M), (3, sg_r O), (4, sg_i (6 * (j : Int)))] [] h' k' n') : sg_R w mi_L_law d mc ms Q 2331 [(0, sg_r S), (1, sg_r B), (2, sg_r M), (3, sg_r O), (4, sg_i (6 * (j : Int)))] [] h k n := by
  refine sg_aload_n (pc := 2331) (j := 1) dL_law_2331 rfl rfl ?_
  refine sg_aload_n (pc := 2332) (j := 0) dL_law_2332 rfl rfl ?_
  refine sg_iload (pc := 2333) dL_law_2333 rfl ?_
  refine sg_iconst (pc := 2335) (z := 1) dL_law_2335 (by decide) ?_
  first | refine sg_iaddB (pc := 2336) dL_law_2336 (by omega) (by omega) ?_ | refine sg_iadd (pc := 2336) dL_law_2336 ?_
  refine sg_iald (pc := 2337) dL_law_2337 hI.2.2.2.2.2.2.2.2.2 rfl (by omega) (jk_x (by omega) (by omega)) ?_
  refine sg_aload_n (pc := 2338) (j := 0) dL_law_2338 rfl rfl ?_
  refine sg_iload (pc := 2339) dL_law_2339 rfl ?_
  refine sg_iconst (pc := 2341) (z := 2) dL_law_2341 (by decide) ?_
  first | refine sg_iaddB (pc := 2342) dL_law_2342 (by omega) (by omega) ?_ | refine sg_iadd (pc := 2342) dL_law_2342 ?_
  refine sg_iald (pc := 2343) dL_law_2343 hI.2.2.2.2.2.2.2.2.2 rfl (by omega) (jk_x (by omega) (by omega)) ?_
  refine sg_aload_n (pc := 2344) (j := 3) dL_law_2344 rfl rfl ?_
  refine st_cS4 (pc := 2345) (d' := d - 1) (mc' := 8) (ms' := 48) g dL_law_2345 cb_L_codeAt cw_L_codeAt ml_L_367 ms_L_codeAt (Nat.le_of_ble_eq_true rfl) (by first | exact jl_d0 hd rfl | omega) (by first | exact Nat.le_of_ble_eq_true rfl | omega) (by first | exact Nat.le_of_ble_eq_true rfl | omega) ?_
  refine s_L_codeAt g nc (by omega) hI (fun v1 h1 I1 X1 => sg_K1 ?_)
  refine sg_istore (pc := 2348) dL_law_2348 (by decide) ?_
  refine sg_aload_n (pc := 2350) (j := 2) dL_law_2350 rfl rfl ?_
  refine sg_aload_n (pc := 2351) (j := 0) dL_law_2351 rfl rfl ?_
  refine sg_iload (pc := 2352) dL_law_2352 rfl ?_
  refine sg_iconst (pc := 2354) (z := 1) dL_law_2354 (by decide) ?_
  first | refine sg_iaddB (pc := 2355) dL_law_2355 (by omega) (by omega) ?_ | refine sg_iadd (pc := 2355) dL_law_2355 ?_
  refine sg_iald (pc := 2356) dL_law_2356 I1.2.2.2.2.2.2.2.2.2 rfl (by omega) (jk_x (by omega) (by omega)) ?_
  refine sg_aload_n (pc := 2357) (j := 0) dL_law_2357 rfl rfl ?_
  refine sg_iload (pc := 2358) dL_law_2358 rfl ?_
  refine sg_iconst (pc := 2360) (z := 2) dL_law_2360 (by decide) ?_
  first | refine sg_iaddB (pc := 2361) dL_law_2361 (by omega) (by omega) ?_ | refine sg_iadd (pc := 2361) dL_law_2361 ?_
  refine sg_iald (pc := 2362) dL_law_2362 I1.2.2.2.2.2.2.2.2.2 rfl (by omega) (jk_x (by omega) (by omega)) ?_
  refine st_as (fun H r => jk_tgR (B := B) r) ?_
  have m2 := jk_Im I1
  refine sg_cE2 (pc := 2363) (d' := d - 1) (mc' := 0) (ms' := 0) 8 g dL_law_2363 cb_X7_codeAt ml_L_369 mn_X7_codeAt rfl mv_X7_codeAt (Nat.le_of_ble_eq_true rfl) (md_oc m2) (Nat.le_of_ble_eq_true rfl) (by first | exact jl_d0 hd rfl | omega) (by first | exact Nat.le_of_ble_eq_true rfl | omega) (by first | exact Nat.le_of_ble_eq_true rfl | omega) ?_
  refine s_X7_codeAt g (by first | exact jl_d1 hd rfl | omega) m2 (fun v2 h2  y2 => sg_K1 ?_)
  refine st_as (fun H r => jk_unR I1.1 r) ?_
  have I2 := jk_IM I1 y2
  refine sg_istore (pc := 2366) dL_law_2366 (by decide) ?_
  refine sg_goto (pc := 2368) (tgt := 2465) dL_law_2368 (by decide) ?_
  refine sg_lsub (lv' := [(0, _), (1, _), (2, _), (3, _), (4, _)]) ⟨rfl, rfl, rfl, rfl, rfl, trivial⟩ ?_
  exact K _ _ _ I2 (by omega) (by omega)

set_option maxRecDepth 100000 in
set_option maxHeartbeats 1000000 in
theorem lw_c54 {w : sg_W} {Q : sg_O → sg_H → Prop} {h : sg_H} (g : sg_G w) (nc : jk_C w) (hJ : jz w) {d mc ms : Nat} (hd : 30 ≤ d) {B M O S j k n : Nat} {xs : List Int} (hI : jk_I w B M O S xs h) (hj : 6 * j + 6 ≤ xs.length) (hl : xs.length ≤ 3072) (hk : k + 1030 ≤ mc) (hn : n + (48 + 1350) ≤ ms) (K : ∀ (h' : sg_H) (k' n' : Nat), jk_I w B M O S xs h' → k' ≤ k + 1030 → n' ≤ n + (48 + 1350) → sg_R w mi_L_law d mc ms Q 2465 [(0, sg_r S), (1, sg_r B), (2, sg_r M), (3, sg_r O), (4, sg_i (6 * (j : Int)))] [] h' k' n') : sg_R w mi_L_law d mc ms Q 2371 [(0, sg_r S), (1, sg_r B), (2, sg_r M), (3, sg_r O), (4, sg_i (6 * (j : Int)))] [] h k n := by
  refine sg_aload_n (pc := 2371) (j := 1) dL_law_2371 rfl rfl ?_
  refine sg_aload_n (pc := 2372) (j := 0) dL_law_2372 rfl rfl ?_
  refine sg_iload (pc := 2373) dL_law_2373 rfl ?_
  refine sg_iconst (pc := 2375) (z := 1) dL_law_2375 (by decide) ?_
  first | refine sg_iaddB (pc := 2376) dL_law_2376 (by omega) (by omega) ?_ | refine sg_iadd (pc := 2376) dL_law_2376 ?_
  refine sg_iald (pc := 2377) dL_law_2377 hI.2.2.2.2.2.2.2.2.2 rfl (by omega) (jk_x (by omega) (by omega)) ?_
  refine sg_aload_n (pc := 2378) (j := 0) dL_law_2378 rfl rfl ?_
  refine sg_iload (pc := 2379) dL_law_2379 rfl ?_
  refine sg_iconst (pc := 2381) (z := 2) dL_law_2381 (by decide) ?_
  first | refine sg_iaddB (pc := 2382) dL_law_2382 (by omega) (by omega) ?_ | refine sg_iadd (pc := 2382) dL_law_2382 ?_
  refine sg_iald (pc := 2383) dL_law_2383 hI.2.2.2.2.2.2.2.2.2 rfl (by omega) (jk_x (by omega) (by omega)) ?_
  refine sg_aload_n (pc := 2384) (j := 3) dL_law_2384 rfl rfl ?_
  refine st_cS4 (pc := 2385) (d' := d - 1) (mc' := 8) (ms' := 48) g dL_law_2385 cb_L_nth cw_L_nth ml_L_370 ms_L_nth (Nat.le_of_ble_eq_true rfl) (by first | exact jl_d0 hd rfl | omega) (by first | exact Nat.le_of_ble_eq_true rfl | omega) (by first | exact Nat.le_of_ble_eq_true rfl | omega) ?_
  refine s_L_nth g nc (by omega) hI (fun v1 h1 I1 X1 => sg_K1 ?_)
  refine sg_istore (pc := 2388) dL_law_2388 (by decide) ?_
  refine sg_aload_n (pc := 2390) (j := 2) dL_law_2390 rfl rfl ?_
  refine sg_aload_n (pc := 2391) (j := 0) dL_law_2391 rfl rfl ?_
  refine sg_iload (pc := 2392) dL_law_2392 rfl ?_
  refine sg_iconst (pc := 2394) (z := 1) dL_law_2394 (by decide) ?_
  first | refine sg_iaddB (pc := 2395) dL_law_2395 (by omega) (by omega) ?_ | refine sg_iadd (pc := 2395) dL_law_2395 ?_
  refine sg_iald (pc := 2396) dL_law_2396 I1.2.2.2.2.2.2.2.2.2 rfl (by omega) (jk_x (by omega) (by omega)) ?_
  refine sg_aload_n (pc := 2397) (j := 0) dL_law_2397 rfl rfl ?_
  refine sg_iload (pc := 2398) dL_law_2398 rfl ?_
  refine sg_iconst (pc := 2400) (z := 2) dL_law_2400 (by decide) ?_
  first | refine sg_iaddB (pc := 2401) dL_law_2401 (by omega) (by omega) ?_ | refine sg_iadd (pc := 2401) dL_law_2401 ?_
  refine sg_iald (pc := 2402) dL_law_2402 I1.2.2.2.2.2.2.2.2.2 rfl (by omega) (jk_x (by omega) (by omega)) ?_
  refine st_as (fun H r => jk_tgR (B := B) r) ?_
  have m2 := jk_Im I1
  refine sg_cE2 (pc := 2403) (d' := d - 1) (mc' := 152) (ms' := 1350) 8 g dL_law_2403 cb_X7_nth ml_L_372 mn_X7_nth rfl mv_X7_nth (Nat.le_of_ble_eq_true rfl) (md_oc m2) (Nat.le_of_ble_eq_true rfl) (by first | exact jl_d0 hd rfl | omega) (by first | exact Nat.le_of_ble_eq_true rfl | omega) (by first | exact Nat.le_of_ble_eq_true rfl | omega) ?_
  refine s_X7_nth g (by first | exact jl_d1 hd rfl | omega) m2 (fun v2 h2  y2 => sg_K1 ?_)
  refine st_as (fun H r => jk_unR I1.1 r) ?_
  have I2 := jk_IM I1 y2
  refine sg_istore (pc := 2406) dL_law_2406 (by decide) ?_
  refine sg_goto (pc := 2408) (tgt := 2465) dL_law_2408 (by decide) ?_
  refine sg_lsub (lv' := [(0, _), (1, _), (2, _), (3, _), (4, _)]) ⟨rfl, rfl, rfl, rfl, rfl, trivial⟩ ?_
  exact K _ _ _ I2 (by omega) (by omega)

set_option maxRecDepth 100000 in
set_option maxHeartbeats 1000000 in
theorem lw_c55 {w : sg_W} {Q : sg_O → sg_H → Prop} {h : sg_H} (g : sg_G w) (nc : jk_C w) (hJ : jz w) {d mc ms : Nat} (hd : 30 ≤ d) {B M O S j k n : Nat} {xs : List Int} (hI : jk_I w B M O S xs h) (hj : 6 * j + 6 ≤ xs.length) (hl : xs.length ≤ 3072) (hk : k + 1030 ≤ mc) (hn : n + (48 + 0) ≤ ms) (K : ∀ (h' : sg_H) (k' n' : Nat), jk_I w B M O S xs h' → k' ≤ k + 1030 → n' ≤ n + (48 + 0) → sg_R w mi_L_law d mc ms Q 2465 [(0, sg_r S), (1, sg_r B), (2, sg_r M), (3, sg_r O), (4, sg_i (6 * (j : Int)))] [] h' k' n') : sg_R w mi_L_law d mc ms Q 2411 [(0, sg_r S), (1, sg_r B), (2, sg_r M), (3, sg_r O), (4, sg_i (6 * (j : Int)))] [] h k n := by
  refine sg_aload_n (pc := 2411) (j := 1) dL_law_2411 rfl rfl ?_
  refine sg_aload_n (pc := 2412) (j := 0) dL_law_2412 rfl rfl ?_
  refine sg_iload (pc := 2413) dL_law_2413 rfl ?_
  refine sg_iconst (pc := 2415) (z := 1) dL_law_2415 (by decide) ?_
  first | refine sg_iaddB (pc := 2416) dL_law_2416 (by omega) (by omega) ?_ | refine sg_iadd (pc := 2416) dL_law_2416 ?_
  refine sg_iald (pc := 2417) dL_law_2417 hI.2.2.2.2.2.2.2.2.2 rfl (by omega) (jk_x (by omega) (by omega)) ?_
  refine sg_aload_n (pc := 2418) (j := 3) dL_law_2418 rfl rfl ?_
  refine st_cS3 (pc := 2419) (d' := d - 1) (mc' := 8) (ms' := 48) g dL_law_2419 cb_L_house cw_L_house ml_L_373 ms_L_house (Nat.le_of_ble_eq_true rfl) (by first | exact jl_d0 hd rfl | omega) (by first | exact Nat.le_of_ble_eq_true rfl | omega) (by first | exact Nat.le_of_ble_eq_true rfl | omega) ?_
  refine s_L_house g nc (by omega) hI (fun v1 h1 I1 X1 => sg_K1 ?_)
  refine sg_istore (pc := 2422) dL_law_2422 (by decide) ?_
  refine sg_aload_n (pc := 2424) (j := 2) dL_law_2424 rfl rfl ?_
  refine sg_aload_n (pc := 2425) (j := 0) dL_law_2425 rfl rfl ?_
  refine sg_iload (pc := 2426) dL_law_2426 rfl ?_
  refine sg_iconst (pc := 2428) (z := 1) dL_law_2428 (by decide) ?_
  first | refine sg_iaddB (pc := 2429) dL_law_2429 (by omega) (by omega) ?_ | refine sg_iadd (pc := 2429) dL_law_2429 ?_
  refine sg_iald (pc := 2430) dL_law_2430 I1.2.2.2.2.2.2.2.2.2 rfl (by omega) (jk_x (by omega) (by omega)) ?_
  refine st_as (fun H r => jk_tgR (B := B) r) ?_
  have m2 := jk_Im I1
  refine sg_cE1 (pc := 2431) (d' := d - 1) (mc' := 0) (ms' := 0) 8 g dL_law_2431 cb_X7_house ml_L_375 mn_X7_house rfl mv_X7_house (Nat.le_of_ble_eq_true rfl) (md_oc m2) (Nat.le_of_ble_eq_true rfl) (by first | exact jl_d0 hd rfl | omega) (by first | exact Nat.le_of_ble_eq_true rfl | omega) (by first | exact Nat.le_of_ble_eq_true rfl | omega) ?_
  refine s_X7_house g (by first | exact jl_d1 hd rfl | omega) m2 (fun v2 h2  y2 => sg_K1 ?_)
  refine st_as (fun H r => jk_unR I1.1 r) ?_
  have I2 := jk_IM I1 y2
  refine sg_istore (pc := 2434) dL_law_2434 (by decide) ?_
  refine sg_goto (pc := 2436) (tgt := 2465) dL_law_2436 (by decide) ?_
  refine sg_lsub (lv' := [(0, _), (1, _), (2, _), (3, _), (4, _)]) ⟨rfl, rfl, rfl, rfl, rfl, trivial⟩ ?_
  exact K _ _ _ I2 (by omega) (by omega)

set_option maxRecDepth 100000 in
set_option maxHeartbeats 1000000 in
theorem lw_c56 {w : sg_W} {Q : sg_O → sg_H → Prop} {h : sg_H} (g : sg_G w) (nc : jk_C w) (hJ : jz w) {d mc ms : Nat} (hd : 30 ≤ d) {B M O S j k n : Nat} {xs : List Int} (hI : jk_I w B M O S xs h) (hj : 6 * j + 6 ≤ xs.length) (hl : xs.length ≤ 3072) (hk : k + 1030 ≤ mc) (hn : n + (0 + 0) ≤ ms) (K : ∀ (h' : sg_H) (k' n' : Nat), jk_I w B M O S xs h' → k' ≤ k + 1030 → n' ≤ n + (0 + 0) → sg_R w mi_L_law d mc ms Q 2465 [(0, sg_r S), (1, sg_r B), (2, sg_r M), (3, sg_r O), (4, sg_i (6 * (j : Int)))] [] h' k' n') : sg_R w mi_L_law d mc ms Q 2439 [(0, sg_r S), (1, sg_r B), (2, sg_r M), (3, sg_r O), (4, sg_i (6 * (j : Int)))] [] h k n := by
  refine sg_aload_n (pc := 2439) (j := 1) dL_law_2439 rfl rfl ?_
  refine sg_cE0 (pc := 2440) (d' := d - 1) (mc' := 0) (ms' := 0) 6 g dL_law_2440 cb_X5_isSound ml_L_376 mn_X5_isSound rfl mv_X5_isSound (Nat.le_of_ble_eq_true rfl) (ck_oc hI.2.2.1) (Nat.le_of_ble_eq_true rfl) (by first | exact jl_d0 hd rfl | omega) (by first | exact Nat.le_of_ble_eq_true rfl | omega) (by first | exact Nat.le_of_ble_eq_true rfl | omega) ?_
  refine s_X5_isSound g (by first | exact jl_d1 hd rfl | omega) hI.2.2.1 (fun v1 c1 => sg_K1 ?_)
  refine sg_pop (pc := 2443) dL_law_2443 rfl ?_
  refine sg_aload_n (pc := 2444) (j := 2) dL_law_2444 rfl rfl ?_
  refine st_as (fun H r => jk_tgR (B := B) r) ?_
  have m2 := jk_Im hI
  refine sg_cE0 (pc := 2445) (d' := d - 1) (mc' := 0) (ms' := 0) 8 g dL_law_2445 cb_X7_isSound ml_L_380 mn_X7_isSound rfl mv_X7_isSound (Nat.le_of_ble_eq_true rfl) (md_oc m2) (Nat.le_of_ble_eq_true rfl) (by first | exact jl_d0 hd rfl | omega) (by first | exact Nat.le_of_ble_eq_true rfl | omega) (by first | exact Nat.le_of_ble_eq_true rfl | omega) ?_
  refine s_X7_isSound g (by first | exact jl_d1 hd rfl | omega) m2 (fun v2 h2 c2_0 y2 => sg_K1 ?_)
  refine st_as (fun H r => jk_unR hI.1 r) ?_
  have I2 := jk_IM hI y2
  refine sg_pop (pc := 2448) dL_law_2448 rfl ?_
  refine sg_goto (pc := 2449) (tgt := 2465) dL_law_2449 (by decide) ?_
  refine sg_lsub (lv' := [(0, _), (1, _), (2, _), (3, _), (4, _)]) ⟨rfl, rfl, rfl, rfl, rfl, trivial⟩ ?_
  exact K _ _ _ I2 (by omega) (by omega)

set_option maxRecDepth 100000 in
set_option maxHeartbeats 1000000 in
theorem lw_c57 {w : sg_W} {Q : sg_O → sg_H → Prop} {h : sg_H} (g : sg_G w) (nc : jk_C w) (hJ : jz w) {d mc ms : Nat} (hd : 30 ≤ d) {B M O S j k n : Nat} {xs : List Int} (hI : jk_I w B M O S xs h) (hj : 6 * j + 6 ≤ xs.length) (hl : xs.length ≤ 3072) (hk : k + 1030 ≤ mc) (hn : n + (0 + 8070) ≤ ms) (K : ∀ (h' : sg_H) (k' n' : Nat), jk_I w B M O S xs h' → k' ≤ k + 1030 → n' ≤ n + (0 + 8070) → sg_R w mi_L_law d mc ms Q 2465 [(0, sg_r S), (1, sg_r B), (2, sg_r M), (3, sg_r O), (4, sg_i (6 * (j : Int)))] [] h' k' n') : sg_R w mi_L_law d mc ms Q 2452 [(0, sg_r S), (1, sg_r B), (2, sg_r M), (3, sg_r O), (4, sg_i (6 * (j : Int)))] [] h k n := by
  refine sg_aload_n (pc := 2452) (j := 1) dL_law_2452 rfl rfl ?_
  refine sg_cE0 (pc := 2453) (d' := d - 1) (mc' := 0) (ms' := 0) 6 g dL_law_2453 cb_X5_digest ml_L_381 mn_X5_digest rfl mv_X5_digest (Nat.le_of_ble_eq_true rfl) (ck_oc hI.2.2.1) (Nat.le_of_ble_eq_true rfl) (by first | exact jl_d0 hd rfl | omega) (by first | exact Nat.le_of_ble_eq_true rfl | omega) (by first | exact Nat.le_of_ble_eq_true rfl | omega) ?_
  refine s_X5_digest g (by first | exact jl_d1 hd rfl | omega) hI.2.2.1 (fun v1 => sg_K1 ?_)
  refine sg_pop2 (pc := 2456) dL_law_2456 ?_
  refine sg_aload_n (pc := 2457) (j := 2) dL_law_2457 rfl rfl ?_
  refine st_as (fun H r => jk_tgR (B := B) r) ?_
  have m2 := jk_Im hI
  refine sg_cE0 (pc := 2458) (d' := d - 1) (mc' := 1016) (ms' := 8070) 8 g dL_law_2458 cb_X7_digest ml_L_385 mn_X7_digest rfl mv_X7_digest (Nat.le_of_ble_eq_true rfl) (md_oc m2) (Nat.le_of_ble_eq_true rfl) (by first | exact jl_d0 hd rfl | omega) (by first | exact Nat.le_of_ble_eq_true rfl | omega) (by first | exact Nat.le_of_ble_eq_true rfl | omega) ?_
  refine s_X7_digest g (by first | exact jl_d1 hd rfl | omega) m2 (fun v2 h2  y2 => sg_K1 ?_)
  refine st_as (fun H r => jk_unR hI.1 r) ?_
  have I2 := jk_IM hI y2
  refine sg_pop2 (pc := 2461) dL_law_2461 ?_
  refine sg_goto (pc := 2462) (tgt := 2465) dL_law_2462 (by decide) ?_
  refine sg_lsub (lv' := [(0, _), (1, _), (2, _), (3, _), (4, _)]) ⟨rfl, rfl, rfl, rfl, rfl, trivial⟩ ?_
  exact K _ _ _ I2 (by omega) (by omega)

