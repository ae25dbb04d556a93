abbrev e_I : String := "java/lang/IndexOutOfBoundsException"
abbrev e_A : String := "java/lang/IllegalArgumentException"
abbrev e_S : String := "java/lang/IllegalStateException"
section
variable {w : sg_W} {mi : sg_M} {d mc ms : Nat} {Q : sg_O → sg_H → Prop} {pc : Nat} {lv : List (Nat × sg_V)} {st : List sg_V} {h : sg_H} {k n : Nat} {B : Nat}
theorem ck_gob {idx j : Nat} {fin : Bool} {ft : FieldType} {v : sg_V} (g : sg_G w) (hd : decode mi.2.1 pc = .ok (.getfield idx, 3)) (hf : sg_fk mi.1.cls idx 6 j fin ft) (hx : ck_X h B) (hv : ∀ z : Int, ([sg_r (B + 1), sg_r (B + 16), sg_r (B + 108), sg_i z] : List sg_V)[j]? = some v) (K : sg_R w mi d mc ms Q (pc + 3) lv (v :: st) h k n) : sg_R w mi d mc ms Q pc lv (sg_r B :: st) h k n := by
  obtain ⟨z, hz⟩ := ck_obj hx
  exact sg_getf g hd hf hz rfl (hv z) K
theorem ck_gkn {idx : Nat} {fin : Bool} {ft : FieldType} (g : sg_G w) (hd : decode mi.2.1 pc = .ok (.getfield idx, 3)) (hf : sg_fk mi.1.cls idx 6 3 fin ft) (hx : ck_X h B) (K : ∀ z : Int, h.2 B = some (6, [sg_r (B + 1), sg_r (B + 16), sg_r (B + 108), sg_i z]) → sg_R w mi d mc ms Q (pc + 3) lv (sg_i z :: st) h k n) : sg_R w mi d mc ms Q pc lv (sg_r B :: st) h k n := by
  obtain ⟨z, hz⟩ := ck_obj hx
  exact sg_getf g hd hf hz rfl rfl (K z hz)
end

