set_option maxHeartbeats 4000000 in
set_option maxRecDepth 100000 in
theorem whole_start {p : Program} {e : Env} {s : State} {m : MethodId} {below : List Frame} {meth : Method} {c : Code} (l : Launch) (hflags : l.flags = flags0) {b L : Nat} {xs : Nat → Int32} (hL : L ≤ 3072) (C0 : lw_At p s m meth c b L xs) : W p l e rm_1 s m #[Value.ref b] below meth c s.heap [] 0 0 (lw_Z below #[Value.ref b] s) (entryFrame m ([Value.ref b] : List Value).toArray 7) := by
  obtain ⟨hx, hb, hr, hml, hown, hts, hX, hbl, hlocks, hgv⟩ := id C0
  have hs := flat_of_before _ hgv
  have hA : ∀ a : Nat, a < s.heap.size → ¬ (fun q : Nat => s.heap.size ≤ q) a := fun a h => Nat.not_le.mpr h
  obtain ⟨c0, i0, k0⟩ := u_known (C := RJ0) (T := TJ0) (N := 4) (n := 4) hts (fun x hx => (cw_0 x hx).1) (hts (.instantiable RJ0 4) ts_4_208.1.2.1.2.2)
  obtain ⟨c1, i1, k1⟩ := u_known (C := RJ4) (T := TJ4) (N := 4) (n := 4) hts (fun x hx => (cw_1 x hx).1) (hts (.instantiable RJ4 4) ts_4_80.1.1.2.2.1)
  obtain ⟨c2, i2, k2⟩ := u_known (C := RJx4a65c) (T := TJx4a65c) (N := 3) (n := 3) hts (fun x hx => (cw_2 x hx).1) (hts (.instantiable RJx4a65c 3) ts_5_224.1.1.2.2.2)
  obtain ⟨c3, i3, k3⟩ := u_known (C := RX0) (T := TX0) (N := 2) (n := 2) hts (fun x hx => (cw_3 x hx).1) (hts (.instantiable RX0 2) ts_1_32.1.2.2.2.2)
  obtain ⟨c4, i4, k4⟩ := u_known (C := RX1) (T := TX1) (N := 2) (n := 2) hts (fun x hx => (cw_4 x hx).1) (hts (.instantiable RX1 2) ts_1_64.1.1.2.2.1)
  obtain ⟨c5, i5, k5⟩ := u_known (C := RX3) (T := TX3) (N := 2) (n := 2) hts (fun x hx => (cw_5 x hx).1) (hts (.instantiable RX3 2) ts_1_32.1.2.1.1.1)
  obtain ⟨c6, i6, k6⟩ := u_known (C := RX5) (T := TX5) (N := 4) (n := 4) hts (fun x hx => (cw_6 x hx).1) (hts (.instantiable RX5 4) ts_1_32.1.1.1.1.1)
  obtain ⟨c7, i7, k7⟩ := u_known (C := RX6) (T := TX6) (N := 2) (n := 2) hts (fun x hx => (cw_7 x hx).1) (hts (.instantiable RX6 2) ts_2_192.1.2.1.1.1)
  obtain ⟨c8, i8, k8⟩ := u_known (C := RX7) (T := TX7) (N := 4) (n := 4) hts (fun x hx => (cw_8 x hx).1) (hts (.instantiable RX7 4) ts_5_208.1.2.2.2.2)
  obtain ⟨dC, dI, hKc⟩ : ∃ (dC : Nat → ClassId) (dI : Nat → Nat → Nat), ∀ (k : Nat) (q : vw_C), vwCl[k]? = some q → u_Kn s q.1 q.2.1 q.2.2 (dC k) (dI k) := by
    refine ⟨fun k => match k with | 0 => c0 | 1 => c1 | 2 => c2 | 3 => c3 | 4 => c4 | 5 => c5 | 6 => c6 | 7 => c7 | _ => c8, fun k => match k with | 0 => i0 | 1 => i1 | 2 => i2 | 3 => i3 | 4 => i4 | 5 => i5 | 6 => i6 | 7 => i7 | _ => i8, ?_⟩
    intro k q hq
    match k, hq with
    | 0, hq => cases Option.some.inj hq; exact k0
    | 1, hq => cases Option.some.inj hq; exact k1
    | 2, hq => cases Option.some.inj hq; exact k2
    | 3, hq => cases Option.some.inj hq; exact k3
    | 4, hq => cases Option.some.inj hq; exact k4
    | 5, hq => cases Option.some.inj hq; exact k5
    | 6, hq => cases Option.some.inj hq; exact k6
    | 7, hq => cases Option.some.inj hq; exact k7
    | 8, hq => cases Option.some.inj hq; exact k8
    | k + 9, hq => simp [vwCl] at hq
  have hK : va_K (dC, dI) vwCl [] s := ⟨hKc, fun k q h => by simp at h⟩
  obtain ⟨w, ew⟩ : ∃ w : sg_W, w = (l, s, (dC, dI)) := ⟨_, rfl⟩
  have w1 : w.1 = l := by rw [ew]
  have w2 : w.2.1 = s := by rw [ew]
  have hK : va_K w.2.2 vwCl [] w.2.1 := by rw [ew]; exact hK
  have zU := vx_Zqof (hts (.laysStatic "java/lang/Throwable" "UNASSIGNED_STACK" "[Ljava/lang/StackTraceElement;") ts_1_176.1.1.2.2.1) (hts (.initialized "java/lang/Throwable") ts_1_0.1.2.1.2.1) (show (.isRef (.static "java/lang/Throwable" "UNASSIGNED_STACK" "[Ljava/lang/StackTraceElement;") : Jvm.Cond).before #[Value.ref b] s = true from (jh_r (jh_r (jh_l (jh_l (jh_l (jh_l (jh_l (jh_l (jh_l (jh_l (jh_r hgv)))))))))))) hA
  have zN := vx_Zqof (hts (.laysStatic "java/lang/Throwable" "SUPPRESSED_SENTINEL" "Ljava/util/List;") ts_1_176.1.2.1.1.1) (hts (.initialized "java/lang/Throwable") ts_1_0.1.2.1.2.1) (show (.isRef (.static "java/lang/Throwable" "SUPPRESSED_SENTINEL" "Ljava/util/List;") : Jvm.Cond).before #[Value.ref b] s = true from (jh_l (jh_r (jh_l (jh_l (jh_l (jh_l (jh_l (jh_l (jh_l (jh_r hgv))))))))))) hA
  have g : sg_G w := by
    rw [ew]
    refine ⟨⟨fun c hc => jh_args c (jh_on c hc) (hts c hc), fun own is tx hm => jh_str (hts _ hm)⟩, (by rw [ew] at hK; exact hK), ?_, zU, zN⟩
    show l.stackTraces = false
    unfold Launch.stackTraces
    rw [hflags]
    decide +kernel
  have nc : jk_C w := by
    rw [ew]
    exact ⟨va_Nc.of (show (.not (.castable "java/lang/IllegalArgumentException" "java/lang/IndexOutOfBoundsException") : Jvm.Cond).before #[Value.ref b] s = true from (jh_l (jh_r (jh_l (jh_r (jh_l (jh_r (jh_r (jh_l (jh_r (jh_l (jh_r hgv)))))))))))), va_Nc.of (show (.not (.castable "java/lang/IllegalStateException" "java/lang/IndexOutOfBoundsException") : Jvm.Cond).before #[Value.ref b] s = true from (jh_r (jh_r (jh_l (jh_r (jh_l (jh_r (jh_r (jh_l (jh_r (jh_l (jh_r hgv)))))))))))), va_Nc.of (show (.not (.castable "java/lang/IllegalStateException" "java/lang/IllegalArgumentException") : Jvm.Cond).before #[Value.ref b] s = true from (jh_l (jh_r (jh_l (jh_r (jh_r (jh_r (jh_r (jh_l (jh_r (jh_l (jh_r hgv))))))))))))⟩
  have hJ : jz w := by
    rw [ew]
    exact va_Zof (hts (.laysStatic "java/lang/String" "COMPACT_STRINGS" "Z") ts_4_80.1.2.2.2.2) (hts (.initialized "java/lang/String") ts_1_16.1.2.1.2.1) (va_eqt (show (.eq (.static "java/lang/String" "COMPACT_STRINGS" "Z") (.int 1) : Jvm.Cond).before #[Value.ref b] s = true from (jh_l (jh_r (jh_r (jh_l (jh_l (jh_l (jh_l (jh_l (jh_l (jh_l (jh_r hgv))))))))))))) hA
  obtain ⟨a0, e0, t0⟩ := va_Tof (tm := .elem (.static "SignkindsModel" "KINDS" "[[I") (.int 0)) (ty := .int) (N := 2) (f := fun j => .int (([48, 57] : List Int32).getD j 0)) (by decide) (show (.arrayOf (.elem (.static "SignkindsModel" "KINDS" "[[I") (.int 0)) .int : Jvm.Cond).before #[Value.ref b] s = true from (jh_l (jh_r (jh_r (jh_r (jh_r (jh_l (jh_l (jh_l (jh_r (jh_l (jh_r hgv)))))))))))) (va_eqt (show (.eq (.length (.elem (.static "SignkindsModel" "KINDS" "[[I") (.int 0))) (.int 2) : Jvm.Cond).before #[Value.ref b] s = true from (jh_r (jh_r (jh_r (jh_r (jh_r (jh_l (jh_l (jh_l (jh_r (jh_l (jh_r hgv))))))))))))) (fun j hj => by
    rcases (show j = 0 ∨ j = 1 by omega) with rfl | rfl
    · exact va_eqt (show (.eq (.elem (.elem (.static "SignkindsModel" "KINDS" "[[I") (.int 0)) (.int 0)) (.int 48) : Jvm.Cond).before #[Value.ref b] s = true from (jh_l (jh_l (jh_l (jh_l (jh_r (jh_l (jh_l (jh_r (jh_l (jh_r hgv)))))))))))
    · exact va_eqt (show (.eq (.elem (.elem (.static "SignkindsModel" "KINDS" "[[I") (.int 0)) (.int 1)) (.int 57) : Jvm.Cond).before #[Value.ref b] s = true from (jh_l (jh_r (jh_l (jh_l (jh_l (jh_r (jh_l (jh_l (jh_r (jh_l (jh_r hgv))))))))))))) hA
  obtain ⟨a1, e1, t1⟩ := va_Tof (tm := .elem (.static "SignkindsModel" "KINDS" "[[I") (.int 1)) (ty := .int) (N := 16) (f := fun j => .int (([65, 90, 97, 122, 170, 170, 181, 181, 186, 186, 192, 214, 216, 246, 248, 255] : List Int32).getD j 0)) (by decide) (show (.arrayOf (.elem (.static "SignkindsModel" "KINDS" "[[I") (.int 1)) .int : Jvm.Cond).before #[Value.ref b] s = true from (jh_l (jh_r (jh_l (jh_l (jh_r (jh_l (jh_l (jh_r (jh_l (jh_r hgv))))))))))) (va_eqt (show (.eq (.length (.elem (.static "SignkindsModel" "KINDS" "[[I") (.int 1))) (.int 16) : Jvm.Cond).before #[Value.ref b] s = true from (jh_l (jh_r (jh_r (jh_l (jh_l (jh_r (jh_l (jh_l (jh_r (jh_l (jh_r hgv))))))))))))) (fun j hj => by
    rcases (show j = 0 ∨ j = 1 ∨ j = 2 ∨ j = 3 ∨ j = 4 ∨ j = 5 ∨ j = 6 ∨ j = 7 ∨ j = 8 ∨ j = 9 ∨ j = 10 ∨ j = 11 ∨ j = 12 ∨ j = 13 ∨ j = 14 ∨ j = 15 by omega) with rfl | rfl | rfl | rfl | rfl | rfl | rfl | rfl | rfl | rfl | rfl | rfl | rfl | rfl | rfl | rfl
    · exact va_eqt (show (.eq (.elem (.elem (.static "SignkindsModel" "KINDS" "[[I") (.int 1)) (.int 0)) (.int 65) : Jvm.Cond).before #[Value.ref b] s = true from (jh_r (jh_r (jh_r (jh_l (jh_l (jh_r (jh_l (jh_l (jh_r (jh_l (jh_r hgv))))))))))))
    · exact va_eqt (show (.eq (.elem (.elem (.static "SignkindsModel" "KINDS" "[[I") (.int 1)) (.int 1)) (.int 90) : Jvm.Cond).before #[Value.ref b] s = true from (jh_l (jh_l (jh_r (jh_l (jh_r (jh_l (jh_l (jh_r (jh_l (jh_r hgv)))))))))))
    · exact va_eqt (show (.eq (.elem (.elem (.static "SignkindsModel" "KINDS" "[[I") (.int 1)) (.int 2)) (.int 97) : Jvm.Cond).before #[Value.ref b] s = true from (jh_l (jh_r (jh_l (jh_r (jh_l (jh_r (jh_l (jh_l (jh_r (jh_l (jh_r hgv))))))))))))
    · exact va_eqt (show (.eq (.elem (.elem (.static "SignkindsModel" "KINDS" "[[I") (.int 1)) (.int 3)) (.int 122) : Jvm.Cond).before #[Value.ref b] s = true from (jh_r (jh_r (jh_l (jh_r (jh_l (jh_r (jh_l (jh_l (jh_r (jh_l (jh_r hgv))))))))))))
    · exact va_eqt (show (.eq (.elem (.elem (.static "SignkindsModel" "KINDS" "[[I") (.int 1)) (.int 4)) (.int 170) : Jvm.Cond).before #[Value.ref b] s = true from (jh_l (jh_r (jh_r (jh_l (jh_r (jh_l (jh_l (jh_r (jh_l (jh_r hgv)))))))))))
    · exact va_eqt (show (.eq (.elem (.elem (.static "SignkindsModel" "KINDS" "[[I") (.int 1)) (.int 5)) (.int 170) : Jvm.Cond).before #[Value.ref b] s = true from (jh_l (jh_r (jh_r (jh_r (jh_l (jh_r (jh_l (jh_l (jh_r (jh_l (jh_r hgv))))))))))))
    · exact va_eqt (show (.eq (.elem (.elem (.static "SignkindsModel" "KINDS" "[[I") (.int 1)) (.int 6)) (.int 181) : Jvm.Cond).before #[Value.ref b] s = true from (jh_r (jh_r (jh_r (jh_r (jh_l (jh_r (jh_l (jh_l (jh_r (jh_l (jh_r hgv))))))))))))
    · exact va_eqt (show (.eq (.elem (.elem (.static "SignkindsModel" "KINDS" "[[I") (.int 1)) (.int 7)) (.int 181) : Jvm.Cond).before #[Value.ref b] s = true from (jh_l (jh_l (jh_l (jh_r (jh_r (jh_l (jh_l (jh_r (jh_l (jh_r hgv)))))))))))
    · exact va_eqt (show (.eq (.elem (.elem (.static "SignkindsModel" "KINDS" "[[I") (.int 1)) (.int 8)) (.int 186) : Jvm.Cond).before #[Value.ref b] s = true from (jh_l (jh_r (jh_l (jh_l (jh_r (jh_r (jh_l (jh_l (jh_r (jh_l (jh_r hgv))))))))))))
    · exact va_eqt (show (.eq (.elem (.elem (.static "SignkindsModel" "KINDS" "[[I") (.int 1)) (.int 9)) (.int 186) : Jvm.Cond).before #[Value.ref b] s = true from (jh_r (jh_r (jh_l (jh_l (jh_r (jh_r (jh_l (jh_l (jh_r (jh_l (jh_r hgv))))))))))))
    · exact va_eqt (show (.eq (.elem (.elem (.static "SignkindsModel" "KINDS" "[[I") (.int 1)) (.int 10)) (.int 192) : Jvm.Cond).before #[Value.ref b] s = true from (jh_l (jh_r (jh_l (jh_r (jh_r (jh_l (jh_l (jh_r (jh_l (jh_r hgv)))))))))))
    · exact va_eqt (show (.eq (.elem (.elem (.static "SignkindsModel" "KINDS" "[[I") (.int 1)) (.int 11)) (.int 214) : Jvm.Cond).before #[Value.ref b] s = true from (jh_l (jh_r (jh_r (jh_l (jh_r (jh_r (jh_l (jh_l (jh_r (jh_l (jh_r hgv))))))))))))
    · exact va_eqt (show (.eq (.elem (.elem (.static "SignkindsModel" "KINDS" "[[I") (.int 1)) (.int 12)) (.int 216) : Jvm.Cond).before #[Value.ref b] s = true from (jh_r (jh_r (jh_r (jh_l (jh_r (jh_r (jh_l (jh_l (jh_r (jh_l (jh_r hgv))))))))))))
    · exact va_eqt (show (.eq (.elem (.elem (.static "SignkindsModel" "KINDS" "[[I") (.int 1)) (.int 13)) (.int 246) : Jvm.Cond).before #[Value.ref b] s = true from (jh_l (jh_l (jh_r (jh_r (jh_r (jh_l (jh_l (jh_r (jh_l (jh_r hgv)))))))))))
    · exact va_eqt (show (.eq (.elem (.elem (.static "SignkindsModel" "KINDS" "[[I") (.int 1)) (.int 14)) (.int 248) : Jvm.Cond).before #[Value.ref b] s = true from (jh_l (jh_r (jh_l (jh_r (jh_r (jh_r (jh_l (jh_l (jh_r (jh_l (jh_r hgv))))))))))))
    · exact va_eqt (show (.eq (.elem (.elem (.static "SignkindsModel" "KINDS" "[[I") (.int 1)) (.int 15)) (.int 255) : Jvm.Cond).before #[Value.ref b] s = true from (jh_r (jh_r (jh_l (jh_r (jh_r (jh_r (jh_l (jh_l (jh_r (jh_l (jh_r hgv))))))))))))) hA
  obtain ⟨a2, e2, t2⟩ := va_Tof (tm := .elem (.static "SignkindsModel" "KINDS" "[[I") (.int 2)) (ty := .int) (N := 0) (f := fun j => .int (([] : List Int32).getD j 0)) (by decide) (show (.arrayOf (.elem (.static "SignkindsModel" "KINDS" "[[I") (.int 2)) .int : Jvm.Cond).before #[Value.ref b] s = true from (jh_l (jh_r (jh_r (jh_r (jh_r (jh_r (jh_l (jh_l (jh_r (jh_l (jh_r hgv)))))))))))) (va_eqt (show (.eq (.length (.elem (.static "SignkindsModel" "KINDS" "[[I") (.int 2))) (.int 0) : Jvm.Cond).before #[Value.ref b] s = true from (jh_r (jh_r (jh_r (jh_r (jh_r (jh_r (jh_l (jh_l (jh_r (jh_l (jh_r hgv))))))))))))) (fun j hj => absurd hj (Nat.not_lt_zero _)) hA
  obtain ⟨a3, e3, t3⟩ := va_Tof (tm := .elem (.static "SignkindsModel" "KINDS" "[[I") (.int 3)) (ty := .int) (N := 4) (f := fun j => .int (([9, 13, 28, 32] : List Int32).getD j 0)) (by decide) (show (.arrayOf (.elem (.static "SignkindsModel" "KINDS" "[[I") (.int 3)) .int : Jvm.Cond).before #[Value.ref b] s = true from (jh_l (jh_r (jh_l (jh_l (jh_l (jh_r (jh_l (jh_r (jh_l (jh_r hgv))))))))))) (va_eqt (show (.eq (.length (.elem (.static "SignkindsModel" "KINDS" "[[I") (.int 3))) (.int 4) : Jvm.Cond).before #[Value.ref b] s = true from (jh_l (jh_r (jh_r (jh_l (jh_l (jh_l (jh_r (jh_l (jh_r (jh_l (jh_r hgv))))))))))))) (fun j hj => by
    rcases (show j = 0 ∨ j = 1 ∨ j = 2 ∨ j = 3 by omega) with rfl | rfl | rfl | rfl
    · exact va_eqt (show (.eq (.elem (.elem (.static "SignkindsModel" "KINDS" "[[I") (.int 3)) (.int 0)) (.int 9) : Jvm.Cond).before #[Value.ref b] s = true from (jh_r (jh_r (jh_r (jh_l (jh_l (jh_l (jh_r (jh_l (jh_r (jh_l (jh_r hgv))))))))))))
    · exact va_eqt (show (.eq (.elem (.elem (.static "SignkindsModel" "KINDS" "[[I") (.int 3)) (.int 1)) (.int 13) : Jvm.Cond).before #[Value.ref b] s = true from (jh_l (jh_l (jh_r (jh_l (jh_l (jh_r (jh_l (jh_r (jh_l (jh_r hgv)))))))))))
    · exact va_eqt (show (.eq (.elem (.elem (.static "SignkindsModel" "KINDS" "[[I") (.int 3)) (.int 2)) (.int 28) : Jvm.Cond).before #[Value.ref b] s = true from (jh_l (jh_r (jh_l (jh_r (jh_l (jh_l (jh_r (jh_l (jh_r (jh_l (jh_r hgv))))))))))))
    · exact va_eqt (show (.eq (.elem (.elem (.static "SignkindsModel" "KINDS" "[[I") (.int 3)) (.int 3)) (.int 32) : Jvm.Cond).before #[Value.ref b] s = true from (jh_r (jh_r (jh_l (jh_r (jh_l (jh_l (jh_r (jh_l (jh_r (jh_l (jh_r hgv))))))))))))) hA
  obtain ⟨a4, e4, t4⟩ := va_Tof (tm := .elem (.static "SignkindsModel" "KINDS" "[[I") (.int 4)) (ty := .int) (N := 6) (f := fun j => .int (([65, 90, 192, 214, 216, 222] : List Int32).getD j 0)) (by decide) (show (.arrayOf (.elem (.static "SignkindsModel" "KINDS" "[[I") (.int 4)) .int : Jvm.Cond).before #[Value.ref b] s = true from (jh_l (jh_r (jh_l (jh_l (jh_r (jh_l (jh_r (jh_l (jh_r (jh_l (jh_r hgv)))))))))))) (va_eqt (show (.eq (.length (.elem (.static "SignkindsModel" "KINDS" "[[I") (.int 4))) (.int 6) : Jvm.Cond).before #[Value.ref b] s = true from (jh_r (jh_r (jh_l (jh_l (jh_r (jh_l (jh_r (jh_l (jh_r (jh_l (jh_r hgv))))))))))))) (fun j hj => by
    rcases (show j = 0 ∨ j = 1 ∨ j = 2 ∨ j = 3 ∨ j = 4 ∨ j = 5 by omega) with rfl | rfl | rfl | rfl | rfl | rfl
    · exact va_eqt (show (.eq (.elem (.elem (.static "SignkindsModel" "KINDS" "[[I") (.int 4)) (.int 0)) (.int 65) : Jvm.Cond).before #[Value.ref b] s = true from (jh_l (jh_r (jh_l (jh_r (jh_l (jh_r (jh_l (jh_r (jh_l (jh_r hgv)))))))))))
    · exact va_eqt (show (.eq (.elem (.elem (.static "SignkindsModel" "KINDS" "[[I") (.int 4)) (.int 1)) (.int 90) : Jvm.Cond).before #[Value.ref b] s = true from (jh_l (jh_r (jh_r (jh_l (jh_r (jh_l (jh_r (jh_l (jh_r (jh_l (jh_r hgv))))))))))))
    · exact va_eqt (show (.eq (.elem (.elem (.static "SignkindsModel" "KINDS" "[[I") (.int 4)) (.int 2)) (.int 192) : Jvm.Cond).before #[Value.ref b] s = true from (jh_r (jh_r (jh_r (jh_l (jh_r (jh_l (jh_r (jh_l (jh_r (jh_l (jh_r hgv))))))))))))
    · exact va_eqt (show (.eq (.elem (.elem (.static "SignkindsModel" "KINDS" "[[I") (.int 4)) (.int 3)) (.int 214) : Jvm.Cond).before #[Value.ref b] s = true from (jh_l (jh_l (jh_r (jh_r (jh_l (jh_r (jh_l (jh_r (jh_l (jh_r hgv)))))))))))
    · exact va_eqt (show (.eq (.elem (.elem (.static "SignkindsModel" "KINDS" "[[I") (.int 4)) (.int 4)) (.int 216) : Jvm.Cond).before #[Value.ref b] s = true from (jh_l (jh_r (jh_l (jh_r (jh_r (jh_l (jh_r (jh_l (jh_r (jh_l (jh_r hgv))))))))))))
    · exact va_eqt (show (.eq (.elem (.elem (.static "SignkindsModel" "KINDS" "[[I") (.int 4)) (.int 5)) (.int 222) : Jvm.Cond).before #[Value.ref b] s = true from (jh_r (jh_r (jh_l (jh_r (jh_r (jh_l (jh_r (jh_l (jh_r (jh_l (jh_r hgv))))))))))))) hA
  obtain ⟨K, eK, tK⟩ := va_Tof (tm := .static "SignkindsModel" "KINDS" "[[I") (ty := .array .int) (N := 5) (f := fun j => .ref (([a0, a1, a2, a3, a4] : List Nat).getD j 0)) (by decide) (show (.arrayOf (.static "SignkindsModel" "KINDS" "[[I") (.array .int) : Jvm.Cond).before #[Value.ref b] s = true from (jh_r (jh_r (jh_l (jh_r (jh_r (jh_l (jh_l (jh_l (jh_r (jh_l (jh_r hgv)))))))))))) (va_eqt (show (.eq (.length (.static "SignkindsModel" "KINDS" "[[I")) (.int 5) : Jvm.Cond).before #[Value.ref b] s = true from (jh_l (jh_l (jh_r (jh_r (jh_r (jh_l (jh_l (jh_l (jh_r (jh_l (jh_r hgv))))))))))))) (fun j hj => by
    rcases (show j = 0 ∨ j = 1 ∨ j = 2 ∨ j = 3 ∨ j = 4 by omega) with rfl | rfl | rfl | rfl | rfl
    · exact e0
    · exact e1
    · exact e2
    · exact e3
    · exact e4) hA
  obtain ⟨D, eD, tD⟩ := va_Tof (tm := .static "java/util/ArrayList" "DEFAULTCAPACITY_EMPTY_ELEMENTDATA" "[Ljava/lang/Object;") (ty := .object "java/lang/Object") (N := 0) (f := fun _ => .null) (by decide) (show (.arrayOf (.static "java/util/ArrayList" "DEFAULTCAPACITY_EMPTY_ELEMENTDATA" "[Ljava/lang/Object;") (.object "java/lang/Object") : Jvm.Cond).before #[Value.ref b] s = true from (jh_l (jh_r (jh_r (jh_l (jh_r (jh_l (jh_l (jh_l (jh_r (jh_l (jh_r hgv)))))))))))) (va_eqt (show (.eq (.length (.static "java/util/ArrayList" "DEFAULTCAPACITY_EMPTY_ELEMENTDATA" "[Ljava/lang/Object;")) (.int 0) : Jvm.Cond).before #[Value.ref b] s = true from (jh_l (jh_l (jh_r (jh_r (jh_l (jh_l (jh_l (jh_r (jh_l (jh_r hgv)))))))))))) (fun j hj => absurd hj (Nat.not_lt_zero _)) hA
  obtain ⟨ad0, av0, S0, ev0⟩ := vk_Sof (N := 1) (tm := fun _ => .string "SignkindsModel" 173) (len := [0]) (byt := [[]]) (by decide) (fun i hi => by
    cases (show i = 0 by omega)
    exact (show (.exactly (.string "SignkindsModel" 173) "java/lang/String" : Jvm.Cond).before #[Value.ref b] s = true from (jh_r (jh_l (jh_r (jh_l (jh_l (jh_r (jh_r (jh_l (jh_r (jh_r (jh_r hgv))))))))))))) (fun i hi => by
    cases (show i = 0 by omega)
    exact (show (.eq (.field (.string "SignkindsModel" 173) "java/lang/String" "coder" "B") (.int 0) : Jvm.Cond).before #[Value.ref b] s = true from (jh_l (jh_r (jh_r (jh_l (jh_l (jh_r (jh_r (jh_l (jh_r (jh_r (jh_r hgv))))))))))))) (fun i hi => by
    cases (show i = 0 by omega)
    exact (show (.arrayOf (.field (.string "SignkindsModel" 173) "java/lang/String" "value" "[B") .byte : Jvm.Cond).before #[Value.ref b] s = true from (jh_l (jh_r (jh_r (jh_r (jh_l (jh_l (jh_r (jh_r (jh_l (jh_r (jh_r (jh_r hgv)))))))))))))) (fun i hi => by
    cases (show i = 0 by omega)
    exact (show (.eq (.length (.field (.string "SignkindsModel" 173) "java/lang/String" "value" "[B")) (.int 0) : Jvm.Cond).before #[Value.ref b] s = true from (jh_r (jh_r (jh_r (jh_r (jh_l (jh_l (jh_r (jh_r (jh_l (jh_r (jh_r (jh_r hgv)))))))))))))) (fun i hi j hj => by
    cases (show i = 0 by omega)
    exact absurd hj (Nat.not_lt_zero _)) (fun i j hi hj hne => absurd (by omega) hne) hA
  have J0 : ∃ a, vk_R "SignkindsModel" 173 "" a w.2.1 ∧ js_S (s.heap.size, jh_f w) a 0 := by
    obtain ⟨o1, o2, o3, o4⟩ := S0.1 0 (by decide)
    refine ⟨ad0 0, ?_, ?_⟩
    · rw [w2]
      exact vk_R.of (hts (.stringRef "SignkindsModel" 173 "") ts_7_112.1.2.1.1.2) (ev0 0 (by decide))
    · have h9 := jh_txt (w := w) hK (a := ad0 0) (v := av0 0) (n := 0) (f := fun j => (([[]] : List (List Int32)).getD 0 []).getD j 0) (by rw [w2]; exact o1) (by rw [w2]; exact o2) (by rw [w2]; exact o3) (by rw [w2]; exact o4) (by decide) (by decide)
      rw [w2] at h9
      exact h9
  obtain ⟨ad1, av1, S1, ev1⟩ := vk_Sof (N := 1) (tm := fun _ => .string "SignkindsModel" 182) (len := [1]) (byt := [[100]]) (by decide) (fun i hi => by
    cases (show i = 0 by omega)
    exact (show (.exactly (.string "SignkindsModel" 182) "java/lang/String" : Jvm.Cond).before #[Value.ref b] s = true from (jh_l (jh_l (jh_l (jh_r (jh_r (jh_r (jh_r (jh_l (jh_r (jh_r (jh_r hgv))))))))))))) (fun i hi => by
    cases (show i = 0 by omega)
    exact (show (.eq (.field (.string "SignkindsModel" 182) "java/lang/String" "coder" "B") (.int 0) : Jvm.Cond).before #[Value.ref b] s = true from (jh_r (jh_l (jh_l (jh_r (jh_r (jh_r (jh_r (jh_l (jh_r (jh_r (jh_r hgv))))))))))))) (fun i hi => by
    cases (show i = 0 by omega)
    exact (show (.arrayOf (.field (.string "SignkindsModel" 182) "java/lang/String" "value" "[B") .byte : Jvm.Cond).before #[Value.ref b] s = true from (jh_l (jh_r (jh_l (jh_r (jh_r (jh_r (jh_r (jh_l (jh_r (jh_r (jh_r hgv))))))))))))) (fun i hi => by
    cases (show i = 0 by omega)
    exact (show (.eq (.length (.field (.string "SignkindsModel" 182) "java/lang/String" "value" "[B")) (.int 1) : Jvm.Cond).before #[Value.ref b] s = true from (jh_l (jh_r (jh_r (jh_l (jh_r (jh_r (jh_r (jh_r (jh_l (jh_r (jh_r (jh_r hgv)))))))))))))) (fun i hi j hj => by
    cases (show i = 0 by omega)
    cases (show j = 0 by have hj2 : j < 1 := hj; omega)
    exact (show (.eq (.elem (.field (.string "SignkindsModel" 182) "java/lang/String" "value" "[B") (.int 0)) (.int 100) : Jvm.Cond).before #[Value.ref b] s = true from (jh_r (jh_r (jh_r (jh_l (jh_r (jh_r (jh_r (jh_r (jh_l (jh_r (jh_r (jh_r hgv)))))))))))))) (fun i j hi hj hne => absurd (by omega) hne) hA
  have J1 : ∃ a, vk_R "SignkindsModel" 182 "d" a w.2.1 ∧ js_S (s.heap.size, jh_f w) a 1 := by
    obtain ⟨o1, o2, o3, o4⟩ := S1.1 0 (by decide)
    refine ⟨ad1 0, ?_, ?_⟩
    · rw [w2]
      exact vk_R.of (hts (.stringRef "SignkindsModel" 182 "d") ts_7_112.1.2.2.1.2) (ev1 0 (by decide))
    · have h9 := jh_txt (w := w) hK (a := ad1 0) (v := av1 0) (n := 1) (f := fun j => (([[100]] : List (List Int32)).getD 0 []).getD j 0) (by rw [w2]; exact o1) (by rw [w2]; exact o2) (by rw [w2]; exact o3) (by rw [w2]; exact o4) (by decide) (by decide)
      rw [w2] at h9
      exact h9
  obtain ⟨ad2, av2, S2, ev2⟩ := vk_Sof (N := 1) (tm := fun _ => .string "SignkindsModel" 184) (len := [1]) (byt := [[117]]) (by decide) (fun i hi => by
    cases (show i = 0 by omega)
    exact (show (.exactly (.string "SignkindsModel" 184) "java/lang/String" : Jvm.Cond).before #[Value.ref b] s = true from (jh_r (jh_l (jh_r (jh_r (jh_l (jh_l (jh_l (jh_r (jh_r (jh_r (jh_r hgv))))))))))))) (fun i hi => by
    cases (show i = 0 by omega)
    exact (show (.eq (.field (.string "SignkindsModel" 184) "java/lang/String" "coder" "B") (.int 0) : Jvm.Cond).before #[Value.ref b] s = true from (jh_l (jh_r (jh_r (jh_r (jh_l (jh_l (jh_l (jh_r (jh_r (jh_r (jh_r hgv))))))))))))) (fun i hi => by
    cases (show i = 0 by omega)
    exact (show (.arrayOf (.field (.string "SignkindsModel" 184) "java/lang/String" "value" "[B") .byte : Jvm.Cond).before #[Value.ref b] s = true from (jh_l (jh_r (jh_r (jh_r (jh_r (jh_l (jh_l (jh_l (jh_r (jh_r (jh_r (jh_r hgv)))))))))))))) (fun i hi => by
    cases (show i = 0 by omega)
    exact (show (.eq (.length (.field (.string "SignkindsModel" 184) "java/lang/String" "value" "[B")) (.int 1) : Jvm.Cond).before #[Value.ref b] s = true from (jh_r (jh_r (jh_r (jh_r (jh_r (jh_l (jh_l (jh_l (jh_r (jh_r (jh_r (jh_r hgv)))))))))))))) (fun i hi j hj => by
    cases (show i = 0 by omega)
    cases (show j = 0 by have hj2 : j < 1 := hj; omega)
    exact (show (.eq (.elem (.field (.string "SignkindsModel" 184) "java/lang/String" "value" "[B") (.int 0)) (.int 117) : Jvm.Cond).before #[Value.ref b] s = true from (jh_l (jh_l (jh_l (jh_l (jh_r (jh_l (jh_l (jh_r (jh_r (jh_r (jh_r hgv))))))))))))) (fun i j hi hj hne => absurd (by omega) hne) hA
  have J2 : ∃ a, vk_R "SignkindsModel" 184 "u" a w.2.1 ∧ js_S (s.heap.size, jh_f w) a 1 := by
    obtain ⟨o1, o2, o3, o4⟩ := S2.1 0 (by decide)
    refine ⟨ad2 0, ?_, ?_⟩
    · rw [w2]
      exact vk_R.of (hts (.stringRef "SignkindsModel" 184 "u") ts_7_112.1.2.2.2.1) (ev2 0 (by decide))
    · have h9 := jh_txt (w := w) hK (a := ad2 0) (v := av2 0) (n := 1) (f := fun j => (([[117]] : List (List Int32)).getD 0 []).getD j 0) (by rw [w2]; exact o1) (by rw [w2]; exact o2) (by rw [w2]; exact o3) (by rw [w2]; exact o4) (by decide) (by decide)
      rw [w2] at h9
      exact h9
  obtain ⟨ad3, av3, S3, ev3⟩ := vk_Sof (N := 1) (tm := fun _ => .string "SignkindsModel" 186) (len := [1]) (byt := [[108]]) (by decide) (fun i hi => by
    cases (show i = 0 by omega)
    exact (show (.exactly (.string "SignkindsModel" 186) "java/lang/String" : Jvm.Cond).before #[Value.ref b] s = true from (jh_r (jh_r (jh_l (jh_l (jh_l (jh_r (jh_l (jh_r (jh_r (jh_r (jh_r hgv))))))))))))) (fun i hi => by
    cases (show i = 0 by omega)
    exact (show (.eq (.field (.string "SignkindsModel" 186) "java/lang/String" "coder" "B") (.int 0) : Jvm.Cond).before #[Value.ref b] s = true from (jh_l (jh_l (jh_r (jh_l (jh_l (jh_r (jh_l (jh_r (jh_r (jh_r (jh_r hgv))))))))))))) (fun i hi => by
    cases (show i = 0 by omega)
    exact (show (.arrayOf (.field (.string "SignkindsModel" 186) "java/lang/String" "value" "[B") .byte : Jvm.Cond).before #[Value.ref b] s = true from (jh_r (jh_l (jh_r (jh_l (jh_l (jh_r (jh_l (jh_r (jh_r (jh_r (jh_r hgv))))))))))))) (fun i hi => by
    cases (show i = 0 by omega)
    exact (show (.eq (.length (.field (.string "SignkindsModel" 186) "java/lang/String" "value" "[B")) (.int 1) : Jvm.Cond).before #[Value.ref b] s = true from (jh_l (jh_r (jh_r (jh_l (jh_l (jh_r (jh_l (jh_r (jh_r (jh_r (jh_r hgv))))))))))))) (fun i hi j hj => by
    cases (show i = 0 by omega)
    cases (show j = 0 by have hj2 : j < 1 := hj; omega)
    exact (show (.eq (.elem (.field (.string "SignkindsModel" 186) "java/lang/String" "value" "[B") (.int 0)) (.int 108) : Jvm.Cond).before #[Value.ref b] s = true from (jh_l (jh_r (jh_r (jh_r (jh_l (jh_l (jh_r (jh_l (jh_r (jh_r (jh_r (jh_r hgv)))))))))))))) (fun i j hi hj hne => absurd (by omega) hne) hA
  have J3 : ∃ a, vk_R "SignkindsModel" 186 "l" a w.2.1 ∧ js_S (s.heap.size, jh_f w) a 1 := by
    obtain ⟨o1, o2, o3, o4⟩ := S3.1 0 (by decide)
    refine ⟨ad3 0, ?_, ?_⟩
    · rw [w2]
      exact vk_R.of (hts (.stringRef "SignkindsModel" 186 "l") ts_7_112.1.2.2.2.2) (ev3 0 (by decide))
    · have h9 := jh_txt (w := w) hK (a := ad3 0) (v := av3 0) (n := 1) (f := fun j => (([[108]] : List (List Int32)).getD 0 []).getD j 0) (by rw [w2]; exact o1) (by rw [w2]; exact o2) (by rw [w2]; exact o3) (by rw [w2]; exact o4) (by decide) (by decide)
      rw [w2] at h9
      exact h9
  obtain ⟨ad4, av4, S4, ev4⟩ := vk_Sof (N := 1) (tm := fun _ => .string "SignkindsModel" 188) (len := [1]) (byt := [[119]]) (by decide) (fun i hi => by
    cases (show i = 0 by omega)
    exact (show (.exactly (.string "SignkindsModel" 188) "java/lang/String" : Jvm.Cond).before #[Value.ref b] s = true from (jh_l (jh_r (jh_l (jh_r (jh_r (jh_r (jh_l (jh_r (jh_r (jh_r (jh_r hgv))))))))))))) (fun i hi => by
    cases (show i = 0 by omega)
    exact (show (.eq (.field (.string "SignkindsModel" 188) "java/lang/String" "coder" "B") (.int 0) : Jvm.Cond).before #[Value.ref b] s = true from (jh_l (jh_r (jh_r (jh_l (jh_r (jh_r (jh_r (jh_l (jh_r (jh_r (jh_r (jh_r hgv)))))))))))))) (fun i hi => by
    cases (show i = 0 by omega)
    exact (show (.arrayOf (.field (.string "SignkindsModel" 188) "java/lang/String" "value" "[B") .byte : Jvm.Cond).before #[Value.ref b] s = true from (jh_r (jh_r (jh_r (jh_l (jh_r (jh_r (jh_r (jh_l (jh_r (jh_r (jh_r (jh_r hgv)))))))))))))) (fun i hi => by
    cases (show i = 0 by omega)
    exact (show (.eq (.length (.field (.string "SignkindsModel" 188) "java/lang/String" "value" "[B")) (.int 1) : Jvm.Cond).before #[Value.ref b] s = true from (jh_l (jh_l (jh_r (jh_r (jh_r (jh_r (jh_l (jh_r (jh_r (jh_r (jh_r hgv))))))))))))) (fun i hi j hj => by
    cases (show i = 0 by omega)
    cases (show j = 0 by have hj2 : j < 1 := hj; omega)
    exact (show (.eq (.elem (.field (.string "SignkindsModel" 188) "java/lang/String" "value" "[B") (.int 0)) (.int 119) : Jvm.Cond).before #[Value.ref b] s = true from (jh_r (jh_l (jh_r (jh_r (jh_r (jh_r (jh_l (jh_r (jh_r (jh_r (jh_r hgv))))))))))))) (fun i j hi hj hne => absurd (by omega) hne) hA
  have J4 : ∃ a, vk_R "SignkindsModel" 188 "w" a w.2.1 ∧ js_S (s.heap.size, jh_f w) a 1 := by
    obtain ⟨o1, o2, o3, o4⟩ := S4.1 0 (by decide)
    refine ⟨ad4 0, ?_, ?_⟩
    · rw [w2]
      exact vk_R.of (hts (.stringRef "SignkindsModel" 188 "w") ts_7_128.1.1.1.1.1) (ev4 0 (by decide))
    · have h9 := jh_txt (w := w) hK (a := ad4 0) (v := av4 0) (n := 1) (f := fun j => (([[119]] : List (List Int32)).getD 0 []).getD j 0) (by rw [w2]; exact o1) (by rw [w2]; exact o2) (by rw [w2]; exact o3) (by rw [w2]; exact o4) (by decide) (by decide)
      rw [w2] at h9
      exact h9
  obtain ⟨ad5, av5, S5, ev5⟩ := vk_Sof (N := 1) (tm := fun _ => .string "SignkindsModel" 190) (len := [1]) (byt := [[45]]) (by decide) (fun i hi => by
    cases (show i = 0 by omega)
    exact (show (.exactly (.string "SignkindsModel" 190) "java/lang/String" : Jvm.Cond).before #[Value.ref b] s = true from (jh_r (jh_l (jh_l (jh_l (jh_r (jh_l (jh_r (jh_r (jh_r (jh_r (jh_r hgv))))))))))))) (fun i hi => by
    cases (show i = 0 by omega)
    exact (show (.eq (.field (.string "SignkindsModel" 190) "java/lang/String" "coder" "B") (.int 0) : Jvm.Cond).before #[Value.ref b] s = true from (jh_l (jh_r (jh_l (jh_l (jh_r (jh_l (jh_r (jh_r (jh_r (jh_r (jh_r hgv))))))))))))) (fun i hi => by
    cases (show i = 0 by omega)
    exact (show (.arrayOf (.field (.string "SignkindsModel" 190) "java/lang/String" "value" "[B") .byte : Jvm.Cond).before #[Value.ref b] s = true from (jh_r (jh_r (jh_l (jh_l (jh_r (jh_l (jh_r (jh_r (jh_r (jh_r (jh_r hgv))))))))))))) (fun i hi => by
    cases (show i = 0 by omega)
    exact (show (.eq (.length (.field (.string "SignkindsModel" 190) "java/lang/String" "value" "[B")) (.int 1) : Jvm.Cond).before #[Value.ref b] s = true from (jh_l (jh_l (jh_r (jh_l (jh_r (jh_l (jh_r (jh_r (jh_r (jh_r (jh_r hgv))))))))))))) (fun i hi j hj => by
    cases (show i = 0 by omega)
    cases (show j = 0 by have hj2 : j < 1 := hj; omega)
    exact (show (.eq (.elem (.field (.string "SignkindsModel" 190) "java/lang/String" "value" "[B") (.int 0)) (.int 45) : Jvm.Cond).before #[Value.ref b] s = true from (jh_r (jh_l (jh_r (jh_l (jh_r (jh_l (jh_r (jh_r (jh_r (jh_r (jh_r hgv))))))))))))) (fun i j hi hj hne => absurd (by omega) hne) hA
  have J5 : ∃ a, vk_R "SignkindsModel" 190 "-" a w.2.1 ∧ js_S (s.heap.size, jh_f w) a 1 := by
    obtain ⟨o1, o2, o3, o4⟩ := S5.1 0 (by decide)
    refine ⟨ad5 0, ?_, ?_⟩
    · rw [w2]
      exact vk_R.of (hts (.stringRef "SignkindsModel" 190 "-") ts_7_128.1.1.1.1.2) (ev5 0 (by decide))
    · have h9 := jh_txt (w := w) hK (a := ad5 0) (v := av5 0) (n := 1) (f := fun j => (([[45]] : List (List Int32)).getD 0 []).getD j 0) (by rw [w2]; exact o1) (by rw [w2]; exact o2) (by rw [w2]; exact o3) (by rw [w2]; exact o4) (by decide) (by decide)
      rw [w2] at h9
      exact h9
  have sz : sg_b w = s.heap.size := by rw [ew]
  have q0 := jh_ints (w := w) hK (a := a0) (N := 2) (zs := [48, 57]) (by rw [w2]; exact t0) rfl (by decide) [48, 57] (by decide)
  have q1 := jh_ints (w := w) hK (a := a1) (N := 16) (zs := [65, 90, 97, 122, 170, 170, 181, 181, 186, 186, 192, 214, 216, 246, 248, 255]) (by rw [w2]; exact t1) rfl (by decide) [65, 90, 97, 122, 170, 170, 181, 181, 186, 186, 192, 214, 216, 246, 248, 255] (by decide)
  have q2 := jh_ints (w := w) hK (a := a2) (N := 0) (zs := []) (by rw [w2]; exact t2) rfl (by decide) [] (by decide)
  have q3 := jh_ints (w := w) hK (a := a3) (N := 4) (zs := [9, 13, 28, 32]) (by rw [w2]; exact t3) rfl (by decide) [9, 13, 28, 32] (by decide)
  have q4 := jh_ints (w := w) hK (a := a4) (N := 6) (zs := [65, 90, 192, 214, 216, 222]) (by rw [w2]; exact t4) rfl (by decide) [65, 90, 192, 214, 216, 222] (by decide)
  have qK := jh_arr (w := w) hK (t0 := 310) (N := 5) (a := K) (vs := [sg_r a0, sg_r a1, sg_r a2, sg_r a3, sg_r a4]) (Or.inr (Or.inr (Or.inl rfl))) rfl (by rw [w2]; exact tK) rfl (by decide) (fun j v hj => by
    match j, hj with
    | 0, hj => cases Option.some.inj hj; rfl
    | 1, hj => cases Option.some.inj hj; rfl
    | 2, hj => cases Option.some.inj hj; rfl
    | 3, hj => cases Option.some.inj hj; rfl
    | 4, hj => cases Option.some.inj hj; rfl
    | j + 5, hj => cases hj)
  have qD := jh_arr (w := w) hK (t0 := 313) (N := 0) (a := D) (vs := []) (Or.inr (Or.inr (Or.inr rfl))) rfl (by rw [w2]; exact tD) rfl (by decide) (fun j v hj => by cases hj)
  have lt : ∀ {q : Nat} {e : sg_E}, jh_f w q = some e → q < s.heap.size := fun h => by rw [← w2]; exact jh_lt h
  have zK : va_Z "SignkindsModel" "KINDS" "[[I" (.ref K) (fun q => sg_b w ≤ q) w.2.1 w.2.1.heap := by
    rw [ew]
    exact va_Zof (hts (.laysStatic "SignkindsModel" "KINDS" "[[I") ts_6_144.1.2.1.2.2) (hts (.initialized "SignkindsModel") ts_1_0.1.1.2.1.2) eK hA
  have zD : va_Z "java/util/ArrayList" "DEFAULTCAPACITY_EMPTY_ELEMENTDATA" "[Ljava/lang/Object;" (.ref D) (fun q => sg_b w ≤ q) w.2.1 w.2.1.heap := by
    rw [ew]
    exact va_Zof (hts (.laysStatic "java/util/ArrayList" "DEFAULTCAPACITY_EMPTY_ELEMENTDATA" "[Ljava/lang/Object;") ts_6_0.1.1.1.2.2) (hts (.initialized "java/util/ArrayList") ts_1_0.1.2.1.1.1) eD hA
  obtain ⟨mm, hmm⟩ := va_Mi.of (show (.isRef (.mirror "[Ljava/lang/Object;") : Jvm.Cond).before #[Value.ref b] s = true from (jh_l (jh_r (jh_l (jh_r (jh_l (jh_r (jh_l (jh_r (jh_r (jh_l (jh_r hgv))))))))))))
  have hMK : md_K w (s.heap.size, jh_f w) := by
    refine ⟨⟨K, a0, a1, a2, a3, a4, zK, lt qK, qK, ⟨lt q0, q0⟩, ⟨lt q1, q1⟩, ⟨lt q2, q2⟩, ⟨lt q3, q3⟩, ⟨lt q4, q4⟩⟩, hJ, ⟨mm, by rw [w2]; exact hmm⟩, ⟨D, zD, lt qD, qD⟩, ?_⟩
    exact List.forall_mem_cons.mpr ⟨J0, List.forall_mem_cons.mpr ⟨J1, List.forall_mem_cons.mpr ⟨J2, List.forall_mem_cons.mpr ⟨J3, List.forall_mem_cons.mpr ⟨J4, List.forall_mem_cons.mpr ⟨J5, fun _ h => absurd h List.not_mem_nil⟩⟩⟩⟩⟩⟩
  have hSS := jh_scr (w := w) hK hL (by rw [w2]; exact hX)
  have hR := lw_begin (w := w) (Q := fun o _ => o = .inl (some (sg_i 1))) (h := (s.heap.size, jh_f w)) g nc hJ (d := 1050) (by decide) (S := b) (xs := (List.range L).map fun j => (xs j).toInt) (by simpa using hL) (fun _ => rfl) (Nat.le_of_eq sz) (fun q e h => lt h) hMK hSS
  have hl0 := lv_entry ([.ref b]) (n := 7) (Nat.le_of_ble_eq_true rfl)
  rw [lg_entry_eq]
  have R1 := hR p e s m #[.ref b] below meth c s.heap [] _ [] _ ⟨hx, hb, hml, hown, hr, hlocks, fun z => absurd z (by decide +kernel), fun z => absurd z (by decide +kernel), Nat.le_of_eq sz, fun _ _ => by rw [w2]⟩ (by rw [w2]; exact State.WarmedH.refl s) hl0 ⟨rfl, rfl, trivial⟩ trivial (by have h9 := jh_rel (w := w); rw [w2] at h9; exact h9) ⟨fun q hq => (nomatch hq), Nat.le_refl _⟩
  rw [w1] at R1
  exact jh_end (Nat.le_of_eq sz.symm) R1

