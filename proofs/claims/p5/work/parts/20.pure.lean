/-! what part 1 and 3 of the document tell of numbers, as functions of whole numbers -/
def fn_betw (x a b : Int) : Int := if a ≤ x ∧ x ≤ b then 1 else 0
def fn_sign (s : Int) : Int := if 0 ≤ s ∧ s ≤ 255 then 1 else 0
def fn_radix (r : Int) : Int := if 2 ≤ r ∧ r ≤ 36 then 1 else 0
def fn_dig (s : Int) : Int := if 48 ≤ s ∧ s ≤ 57 then 1 else 0
def fn_gp (s : Int) : Int := if 65 ≤ s ∧ s ≤ 90 then 1 else 0
def fn_sp (s : Int) : Int := if 97 ≤ s ∧ s ≤ 122 then 1 else 0
def fn_great (s : Int) : Int := if (65 ≤ s ∧ s ≤ 90) ∨ (192 ≤ s ∧ s ≤ 214) ∨ (216 ≤ s ∧ s ≤ 222) then 1 else 0
def fn_letter (s : Int) : Int := if (65 ≤ s ∧ s ≤ 90) ∨ (97 ≤ s ∧ s ≤ 122) ∨ s = 170 ∨ s = 181 ∨ s = 186 ∨ (192 ≤ s ∧ s ≤ 214) ∨ (216 ≤ s ∧ s ≤ 246) ∨ (248 ≤ s ∧ s ≤ 255) then 1 else 0
def fn_lod (s : Int) : Int := if fn_letter s = 1 ∨ fn_dig s = 1 then 1 else 0
def fn_white (s : Int) : Int := if (9 ≤ s ∧ s ≤ 13) ∨ (28 ≤ s ∧ s ≤ 32) then 1 else 0
def fn_isOf (s k : Int) : Int := if k = 0 then fn_dig s else if k = 1 then fn_letter s else if k = 2 then fn_lod s else if k = 3 then fn_white s else if k = 4 then fn_great s else 0
def fn_upper (s : Int) : Int := if (97 ≤ s ∧ s ≤ 122) ∨ (224 ≤ s ∧ s ≤ 246) ∨ (248 ≤ s ∧ s ≤ 254) then s - 32 else if s = 181 then 924 else if s = 255 then 376 else s
def fn_lower (s : Int) : Int := if fn_great s = 1 then s + 32 else s
def fn_plain (s : Int) : Int := if 48 ≤ s ∧ s ≤ 57 then s - 48 else if 65 ≤ s ∧ s ≤ 90 then s - 55 else if 97 ≤ s ∧ s ≤ 122 then s - 87 else -1
def fn_val (s : Int) : Int := if s = 178 then 2 else if s = 179 then 3 else if s = 185 then 1 else if 188 ≤ s ∧ s ≤ 190 then -2 else fn_plain s
def fn_num (s r : Int) : Int := if fn_radix r = 1 ∧ fn_plain s < r then fn_plain s else -1
def fn_digit (x r : Int) : Int := if fn_radix r = 1 ∧ 0 ≤ x ∧ x < r then (if x < 10 then x + 48 else x + 87) else 0
def fn_unit (u : Int) : Int := if 0 ≤ u ∧ u < 65536 then 1 else 0
def fn_high (u : Int) : Int := if 55296 ≤ u ∧ u < 56320 then 1 else 0
def fn_low (u : Int) : Int := if 56320 ≤ u ∧ u < 57344 then 1 else 0
def fn_half (u : Int) : Int := if 55296 ≤ u ∧ u < 57344 then 1 else 0
def fn_code (c : Int) : Int := if 0 ≤ c ∧ c ≤ 1114111 then 1 else 0
def fn_wide (c : Int) : Int := if 65536 ≤ c ∧ c ≤ 1114111 then 1 else 0
def fn_units (c : Int) : Int := if 65536 ≤ c then 2 else 1
def fn_kinds (s : Int) : Int := fn_isOf s 0 + 2 * fn_isOf s 1 + 4 * fn_isOf s 2 + 8 * fn_isOf s 3 + 16 * fn_isOf s 4
theorem fk_b (x k : Int) : fn_isOf x k = 0 ∨ fn_isOf x k = 1 := by
  unfold fn_isOf fn_dig fn_letter fn_lod fn_white fn_great
  (repeat' split) <;> simp
theorem fk_01 (x : Int) : (fn_isOf x 0 = 0 ∨ fn_isOf x 0 = 1) ∧ (fn_isOf x 1 = 0 ∨ fn_isOf x 1 = 1) ∧ (fn_isOf x 2 = 0 ∨ fn_isOf x 2 = 1) ∧ (fn_isOf x 3 = 0 ∨ fn_isOf x 3 = 1) ∧ (fn_isOf x 4 = 0 ∨ fn_isOf x 4 = 1) := ⟨fk_b x 0, fk_b x 1, fk_b x 2, fk_b x 3, fk_b x 4⟩
theorem fk_02 (x : Int) : (0 ≤ fn_isOf x 0 ∧ fn_isOf x 0 ≤ 1) ∧ (0 ≤ fn_isOf x 1 ∧ fn_isOf x 1 ≤ 1) ∧ (0 ≤ fn_isOf x 2 ∧ fn_isOf x 2 ≤ 1) ∧ (0 ≤ fn_isOf x 3 ∧ fn_isOf x 3 ≤ 1) ∧ (0 ≤ fn_isOf x 4 ∧ fn_isOf x 4 ≤ 1) := by
  have h := fk_01 x
  omega
theorem fk_lsl : sg_shl 1 0 = 1 ∧ sg_shl 1 1 = 2 ∧ sg_shl 1 2 = 4 ∧ sg_shl 1 3 = 8 ∧ sg_shl 1 4 = 16 := by decide
theorem fk_lsa {z : Int} (hz : z = 0 ∨ z = 1) : sg_shl z 0 = z ∧ sg_shl z 1 = 2 * z ∧ sg_shl z 2 = 4 * z ∧ sg_shl z 3 = 8 * z ∧ sg_shl z 4 = 16 * z := by
  rcases hz with rfl | rfl <;> decide

