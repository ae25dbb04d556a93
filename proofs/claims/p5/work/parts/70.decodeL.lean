/-! decode rows of the law's entry: its bytes in pieces, and what the reader makes of them -/
def bq (c : ByteArray) (p b : Nat) : Prop := ∃ u : UInt8, c.data.toList[p]? = some u ∧ u.toNat = b
theorem bq_r1 {c : ByteArray} {p b : Nat} (h : bq c p b) : Reader.runAt (Reader.u1 : Decoder Nat) c p = .ok (b, p + 1) := by
  obtain ⟨u, h1, rfl⟩ := h
  have hp : p < c.size := (List.getElem?_eq_some_iff.mp h1).1
  have e : c[p] = u := by
    obtain ⟨h2, h3⟩ := List.getElem?_eq_some_iff.mp h1
    exact h3
  show (if h : p < c.size then _ else _ : Decoder Nat) c p = _
  rw [dif_pos hp]
  rw [← e]
  rfl
theorem bq_b {α β : Type} {c : ByteArray} {p q : Nat} {v : β} {r : Decoder β} {f : β → Decoder α} (h : Reader.runAt r c p = .ok (v, q)) : Reader.runAt (r >>= f) c p = Reader.runAt (f v) c q := by
  show (do let q ← Reader.runAt r c p; Reader.runAt (f q.1) c q.2 : Except _ _) = _
  rw [h]
  rfl
theorem bq_r2 {c : ByteArray} {p a b : Nat} (h : bq c p a) (h2 : bq c (p + 1) b) : Reader.runAt (Reader.u2 : Decoder Nat) c p = .ok (a * 256 + b, p + 2) := by
  show Reader.runAt ((Reader.u1 : Decoder Nat) >>= fun hi => Reader.u1 >>= fun lo => pure (hi * 256 + lo)) c p = _
  rw [bq_b (bq_r1 h), bq_b (bq_r1 h2)]
  rfl
theorem bq_s1 {c : ByteArray} {p b : Nat} (h : bq c p b) : Reader.runAt (Reader.s1 : Decoder Int) c p = .ok (Reader.signed 8 b, p + 1) := by
  show (do let q ← Reader.runAt (Reader.u1 : Decoder Nat) c p; pure (Reader.signed 8 q.1, q.2) : Except _ _) = _
  rw [bq_r1 h]
  rfl
theorem bq_s2 {c : ByteArray} {p a b : Nat} (h : bq c p a) (h2 : bq c (p + 1) b) : Reader.runAt (Reader.s2 : Decoder Int) c p = .ok (Reader.signed 16 (a * 256 + b), p + 2) := by
  show (do let q ← Reader.runAt (Reader.u2 : Decoder Nat) c p; pure (Reader.signed 16 q.1, q.2) : Except _ _) = _
  rw [bq_r2 h h2]
  rfl
def bl_0 : List UInt8 := [187, 0, 8, 89, 183, 0, 185, 76, 187, 0, 186, 89, 183, 0, 188, 77, 187, 0, 14, 89, 183, 0, 189, 78, 3, 54, 4, 21, 4, 42, 190, 16, 6, 100, 163, 9, 133, 42, 21, 4, 46, 16, 63, 126, 170, 0, 0, 0, 0, 0, 9, 117, 0, 0, 0, 0, 0, 0, 0, 57, 0, 0, 0, 248]
def bl_1 : List UInt8 := [0, 0, 1, 68, 0, 0, 1, 108, 0, 0, 1, 148, 0, 0, 1, 205, 0, 0, 1, 233, 0, 0, 2, 45, 0, 0, 2, 73, 0, 0, 2, 101, 0, 0, 2, 153, 0, 0, 2, 193, 0, 0, 2, 233, 0, 0, 3, 17, 0, 0, 3, 57, 0, 0, 3, 97, 0, 0, 3, 125, 0, 0, 3, 153]
def bl_2 : List UInt8 := [0, 0, 3, 169, 0, 0, 3, 182, 0, 0, 3, 210, 0, 0, 3, 238, 0, 0, 4, 10, 0, 0, 4, 38, 0, 0, 4, 66, 0, 0, 4, 94, 0, 0, 4, 150, 0, 0, 4, 206, 0, 0, 5, 6, 0, 0, 5, 74, 0, 0, 5, 111, 0, 0, 5, 139, 0, 0, 5, 179, 0, 0, 5, 219]
def bl_3 : List UInt8 := [0, 0, 6, 15, 0, 0, 6, 55, 0, 0, 6, 83, 0, 0, 6, 111, 0, 0, 6, 151, 0, 0, 6, 191, 0, 0, 6, 219, 0, 0, 6, 247, 0, 0, 7, 59, 0, 0, 7, 99, 0, 0, 7, 139, 0, 0, 7, 164, 0, 0, 7, 189, 0, 0, 7, 214, 0, 0, 7, 239, 0, 0, 8, 39]
def bl_4 : List UInt8 := [0, 0, 8, 79, 0, 0, 8, 119, 0, 0, 8, 159, 0, 0, 8, 199, 0, 0, 8, 239, 0, 0, 9, 23, 0, 0, 9, 63, 0, 0, 9, 91, 0, 0, 9, 104, 43, 42, 21, 4, 4, 96, 46, 42, 21, 4, 5, 96, 46, 42, 21, 4, 6, 96, 46, 42, 21, 4, 7, 96, 46, 42, 21, 4]
def bl_5 : List UInt8 := [8, 96, 46, 45, 184, 0, 190, 54, 5, 44, 42, 21, 4, 4, 96, 46, 42, 21, 4, 5, 96, 46, 42, 21, 4, 6, 96, 46, 42, 21, 4, 7, 96, 46, 42, 21, 4, 8, 96, 46, 182, 0, 195, 54, 6, 167, 8, 52, 43, 42, 21, 4, 4, 96, 46, 42, 21, 4, 5, 96, 46, 45, 184, 0]
def bl_6 : List UInt8 := [196, 54, 5, 44, 42, 21, 4, 4, 96, 46, 42, 21, 4, 5, 96, 46, 182, 0, 199, 54, 6, 167, 8, 12, 43, 42, 21, 4, 4, 96, 46, 42, 21, 4, 5, 96, 46, 45, 184, 0, 200, 54, 5, 44, 42, 21, 4, 4, 96, 46, 42, 21, 4, 5, 96, 46, 182, 0, 202, 54, 6, 167, 7, 228]
def bl_7 : List UInt8 := [43, 42, 21, 4, 4, 96, 46, 45, 184, 0, 203, 54, 5, 44, 42, 21, 4, 4, 96, 46, 182, 0, 206, 54, 6, 44, 182, 0, 207, 21, 5, 159, 0, 5, 3, 172, 21, 5, 154, 0, 16, 45, 180, 0, 13, 21, 6, 133, 148, 153, 0, 5, 3, 172, 167, 7, 171, 43, 42, 21, 4, 4, 96, 46]
def bl_8 : List UInt8 := [45, 184, 0, 210, 54, 5, 44, 42, 21, 4, 4, 96, 46, 182, 0, 212, 54, 6, 167, 7, 143, 43, 42, 21, 4, 4, 96, 46, 42, 21, 4, 5, 96, 46, 42, 21, 4, 6, 96, 46, 153, 0, 7, 4, 167, 0, 4, 3, 45, 184, 0, 213, 54, 5, 44, 42, 21, 4, 4, 96, 46, 42, 21, 4]
def bl_9 : List UInt8 := [5, 96, 46, 42, 21, 4, 6, 96, 46, 153, 0, 7, 4, 167, 0, 4, 3, 182, 0, 216, 54, 6, 167, 7, 75, 43, 42, 21, 4, 4, 96, 46, 45, 184, 0, 217, 54, 5, 44, 42, 21, 4, 4, 96, 46, 182, 0, 219, 54, 6, 167, 7, 47, 43, 42, 21, 4, 4, 96, 46, 45, 184, 0, 220]
def bl_10 : List UInt8 := [54, 5, 44, 42, 21, 4, 4, 96, 46, 182, 0, 222, 54, 6, 167, 7, 19, 43, 42, 21, 4, 4, 96, 46, 42, 21, 4, 5, 96, 46, 42, 21, 4, 6, 96, 46, 45, 184, 0, 223, 54, 5, 44, 42, 21, 4, 4, 96, 46, 42, 21, 4, 5, 96, 46, 42, 21, 4, 6, 96, 46, 182, 0, 226]
def bl_11 : List UInt8 := [54, 6, 167, 6, 223, 43, 42, 21, 4, 4, 96, 46, 42, 21, 4, 5, 96, 46, 45, 184, 0, 227, 54, 5, 44, 42, 21, 4, 4, 96, 46, 42, 21, 4, 5, 96, 46, 182, 0, 229, 54, 6, 167, 6, 183, 43, 42, 21, 4, 4, 96, 46, 42, 21, 4, 5, 96, 46, 45, 184, 0, 230, 54, 5]
def bl_12 : List UInt8 := [44, 42, 21, 4, 4, 96, 46, 42, 21, 4, 5, 96, 46, 182, 0, 232, 54, 6, 167, 6, 143, 43, 42, 21, 4, 4, 96, 46, 42, 21, 4, 5, 96, 46, 45, 184, 0, 233, 54, 5, 44, 42, 21, 4, 4, 96, 46, 42, 21, 4, 5, 96, 46, 182, 0, 235, 54, 6, 167, 6, 103, 43, 42, 21]
def bl_13 : List UInt8 := [4, 4, 96, 46, 42, 21, 4, 5, 96, 46, 45, 184, 0, 236, 54, 5, 44, 42, 21, 4, 4, 96, 46, 42, 21, 4, 5, 96, 46, 182, 0, 238, 54, 6, 167, 6, 63, 43, 42, 21, 4, 4, 96, 46, 42, 21, 4, 5, 96, 46, 45, 184, 0, 239, 54, 5, 44, 42, 21, 4, 4, 96, 46, 42]
def bl_14 : List UInt8 := [21, 4, 5, 96, 46, 182, 0, 241, 54, 6, 167, 6, 23, 43, 42, 21, 4, 4, 96, 46, 45, 184, 0, 242, 54, 5, 44, 42, 21, 4, 4, 96, 46, 182, 0, 244, 54, 6, 167, 5, 251, 43, 42, 21, 4, 4, 96, 46, 45, 184, 0, 245, 54, 5, 44, 42, 21, 4, 4, 96, 46, 182, 0, 247]
def bl_15 : List UInt8 := [54, 6, 167, 5, 223, 43, 45, 184, 0, 248, 54, 5, 44, 182, 0, 251, 54, 6, 167, 5, 207, 43, 182, 0, 252, 87, 44, 182, 0, 255, 87, 167, 5, 194, 43, 42, 21, 4, 4, 96, 46, 45, 184, 1, 0, 54, 5, 44, 42, 21, 4, 4, 96, 46, 182, 1, 2, 54, 6, 167, 5, 166, 43, 42]
def bl_16 : List UInt8 := [21, 4, 4, 96, 46, 45, 184, 1, 3, 54, 5, 44, 42, 21, 4, 4, 96, 46, 182, 1, 5, 54, 6, 167, 5, 138, 43, 42, 21, 4, 4, 96, 46, 45, 184, 1, 6, 54, 5, 44, 42, 21, 4, 4, 96, 46, 182, 1, 8, 54, 6, 167, 5, 110, 43, 42, 21, 4, 4, 96, 46, 45, 184, 1]
def bl_17 : List UInt8 := [9, 54, 5, 44, 42, 21, 4, 4, 96, 46, 182, 1, 11, 54, 6, 167, 5, 82, 43, 42, 21, 4, 4, 96, 46, 45, 184, 1, 12, 54, 5, 44, 42, 21, 4, 4, 96, 46, 182, 1, 14, 54, 6, 167, 5, 54, 43, 42, 21, 4, 4, 96, 46, 45, 184, 1, 15, 54, 5, 44, 42, 21, 4, 4]
def bl_18 : List UInt8 := [96, 46, 182, 1, 17, 54, 6, 167, 5, 26, 43, 42, 21, 4, 4, 96, 46, 42, 21, 4, 5, 96, 46, 153, 0, 7, 4, 167, 0, 4, 3, 45, 184, 1, 18, 54, 5, 44, 42, 21, 4, 4, 96, 46, 42, 21, 4, 5, 96, 46, 153, 0, 7, 4, 167, 0, 4, 3, 182, 1, 21, 54, 6, 167]
def bl_19 : List UInt8 := [4, 226, 43, 42, 21, 4, 4, 96, 46, 42, 21, 4, 5, 96, 46, 153, 0, 7, 4, 167, 0, 4, 3, 45, 184, 1, 22, 54, 5, 44, 42, 21, 4, 4, 96, 46, 42, 21, 4, 5, 96, 46, 153, 0, 7, 4, 167, 0, 4, 3, 182, 1, 24, 54, 6, 167, 4, 170, 43, 42, 21, 4, 4, 96]
def bl_20 : List UInt8 := [46, 42, 21, 4, 5, 96, 46, 153, 0, 7, 4, 167, 0, 4, 3, 45, 184, 1, 25, 54, 5, 44, 42, 21, 4, 4, 96, 46, 42, 21, 4, 5, 96, 46, 153, 0, 7, 4, 167, 0, 4, 3, 182, 1, 27, 54, 6, 167, 4, 114, 43, 42, 21, 4, 4, 96, 46, 42, 21, 4, 5, 96, 46, 42]
def bl_21 : List UInt8 := [21, 4, 6, 96, 46, 153, 0, 7, 4, 167, 0, 4, 3, 45, 184, 1, 28, 54, 5, 44, 42, 21, 4, 4, 96, 46, 42, 21, 4, 5, 96, 46, 42, 21, 4, 6, 96, 46, 153, 0, 7, 4, 167, 0, 4, 3, 182, 1, 30, 54, 6, 167, 4, 46, 43, 42, 21, 4, 4, 96, 46, 42, 21, 4]
def bl_22 : List UInt8 := [5, 96, 46, 182, 1, 31, 87, 44, 42, 21, 4, 4, 96, 46, 42, 21, 4, 5, 96, 46, 182, 1, 34, 87, 167, 4, 9, 43, 42, 21, 4, 4, 96, 46, 45, 184, 1, 35, 54, 5, 44, 42, 21, 4, 4, 96, 46, 182, 1, 37, 54, 6, 167, 3, 237, 43, 42, 21, 4, 4, 96, 46, 42, 21]
def bl_23 : List UInt8 := [4, 5, 96, 46, 45, 184, 1, 38, 54, 5, 44, 42, 21, 4, 4, 96, 46, 42, 21, 4, 5, 96, 46, 182, 1, 40, 54, 6, 167, 3, 197, 43, 42, 21, 4, 4, 96, 46, 42, 21, 4, 5, 96, 46, 45, 184, 1, 41, 54, 5, 44, 42, 21, 4, 4, 96, 46, 42, 21, 4, 5, 96, 46, 182]
def bl_24 : List UInt8 := [1, 43, 54, 6, 167, 3, 157, 43, 42, 21, 4, 4, 96, 46, 42, 21, 4, 5, 96, 46, 42, 21, 4, 6, 96, 46, 45, 184, 1, 44, 54, 5, 44, 42, 21, 4, 4, 96, 46, 42, 21, 4, 5, 96, 46, 42, 21, 4, 6, 96, 46, 182, 1, 46, 54, 6, 167, 3, 105, 43, 42, 21, 4, 4]
def bl_25 : List UInt8 := [96, 46, 42, 21, 4, 5, 96, 46, 45, 184, 1, 47, 54, 5, 44, 42, 21, 4, 4, 96, 46, 42, 21, 4, 5, 96, 46, 182, 1, 49, 54, 6, 167, 3, 65, 43, 42, 21, 4, 4, 96, 46, 45, 184, 1, 50, 54, 5, 44, 42, 21, 4, 4, 96, 46, 182, 1, 52, 58, 6, 167, 3, 37, 43]
def bl_26 : List UInt8 := [42, 21, 4, 4, 96, 46, 45, 184, 1, 53, 54, 5, 44, 42, 21, 4, 4, 96, 46, 182, 1, 55, 58, 6, 167, 3, 9, 43, 42, 21, 4, 4, 96, 46, 42, 21, 4, 5, 96, 46, 45, 184, 1, 56, 54, 5, 44, 42, 21, 4, 4, 96, 46, 42, 21, 4, 5, 96, 46, 182, 1, 58, 54, 6]
def bl_27 : List UInt8 := [167, 2, 225, 43, 42, 21, 4, 4, 96, 46, 42, 21, 4, 5, 96, 46, 45, 184, 1, 59, 54, 5, 44, 42, 21, 4, 4, 96, 46, 42, 21, 4, 5, 96, 46, 182, 1, 61, 54, 6, 167, 2, 185, 43, 42, 21, 4, 4, 96, 46, 45, 184, 1, 62, 54, 5, 44, 42, 21, 4, 4, 96, 46, 182]
def bl_28 : List UInt8 := [1, 64, 54, 6, 167, 2, 157, 43, 42, 21, 4, 4, 96, 46, 45, 184, 1, 65, 54, 5, 44, 42, 21, 4, 4, 96, 46, 182, 1, 67, 54, 6, 167, 2, 129, 43, 42, 21, 4, 4, 96, 46, 42, 21, 4, 5, 96, 46, 42, 21, 4, 6, 96, 46, 153, 0, 7, 4, 167, 0, 4, 3, 45, 184]
def bl_29 : List UInt8 := [1, 68, 54, 5, 44, 42, 21, 4, 4, 96, 46, 42, 21, 4, 5, 96, 46, 42, 21, 4, 6, 96, 46, 153, 0, 7, 4, 167, 0, 4, 3, 182, 1, 70, 54, 6, 167, 2, 61, 43, 42, 21, 4, 4, 96, 46, 42, 21, 4, 5, 96, 46, 45, 184, 1, 71, 54, 5, 44, 42, 21, 4, 4, 96]
def bl_30 : List UInt8 := [46, 42, 21, 4, 5, 96, 46, 182, 1, 73, 54, 6, 167, 2, 21, 43, 42, 21, 4, 4, 96, 46, 42, 21, 4, 5, 96, 46, 45, 184, 1, 74, 54, 5, 44, 42, 21, 4, 4, 96, 46, 42, 21, 4, 5, 96, 46, 182, 1, 76, 54, 6, 167, 1, 237, 43, 42, 21, 4, 4, 96, 46, 182, 1]
def bl_31 : List UInt8 := [77, 87, 44, 42, 21, 4, 4, 96, 46, 182, 1, 80, 87, 167, 1, 212, 43, 42, 21, 4, 4, 96, 46, 182, 1, 81, 87, 44, 42, 21, 4, 4, 96, 46, 182, 1, 84, 87, 167, 1, 187, 43, 42, 21, 4, 4, 96, 46, 182, 1, 85, 87, 44, 42, 21, 4, 4, 96, 46, 182, 1, 88, 87, 167]
def bl_32 : List UInt8 := [1, 162, 43, 42, 21, 4, 4, 96, 46, 182, 1, 89, 87, 44, 42, 21, 4, 4, 96, 46, 182, 1, 92, 87, 167, 1, 137, 43, 42, 21, 4, 4, 96, 46, 42, 21, 4, 5, 96, 46, 153, 0, 7, 4, 167, 0, 4, 3, 45, 184, 1, 93, 54, 5, 44, 42, 21, 4, 4, 96, 46, 42, 21, 4]
def bl_33 : List UInt8 := [5, 96, 46, 153, 0, 7, 4, 167, 0, 4, 3, 182, 1, 95, 54, 6, 167, 1, 81, 43, 42, 21, 4, 4, 96, 46, 42, 21, 4, 5, 96, 46, 45, 184, 1, 96, 54, 5, 44, 42, 21, 4, 4, 96, 46, 42, 21, 4, 5, 96, 46, 182, 1, 98, 54, 6, 167, 1, 41, 43, 42, 21, 4, 4]
def bl_34 : List UInt8 := [96, 46, 42, 21, 4, 5, 96, 46, 45, 184, 1, 99, 54, 5, 44, 42, 21, 4, 4, 96, 46, 42, 21, 4, 5, 96, 46, 182, 1, 101, 54, 6, 167, 1, 1, 43, 42, 21, 4, 4, 96, 46, 42, 21, 4, 5, 96, 46, 45, 184, 1, 102, 54, 5, 44, 42, 21, 4, 4, 96, 46, 42, 21, 4]
def bl_35 : List UInt8 := [5, 96, 46, 182, 1, 104, 54, 6, 167, 0, 217, 43, 42, 21, 4, 4, 96, 46, 42, 21, 4, 5, 96, 46, 45, 184, 1, 105, 54, 5, 44, 42, 21, 4, 4, 96, 46, 42, 21, 4, 5, 96, 46, 182, 1, 107, 54, 6, 167, 0, 177, 43, 42, 21, 4, 4, 96, 46, 42, 21, 4, 5, 96, 46]
def bl_36 : List UInt8 := [45, 184, 1, 108, 54, 5, 44, 42, 21, 4, 4, 96, 46, 42, 21, 4, 5, 96, 46, 182, 1, 110, 54, 6, 167, 0, 137, 43, 42, 21, 4, 4, 96, 46, 42, 21, 4, 5, 96, 46, 45, 184, 1, 111, 54, 5, 44, 42, 21, 4, 4, 96, 46, 42, 21, 4, 5, 96, 46, 182, 1, 113, 54, 6]
def bl_37 : List UInt8 := [167, 0, 97, 43, 42, 21, 4, 4, 96, 46, 42, 21, 4, 5, 96, 46, 45, 184, 1, 114, 54, 5, 44, 42, 21, 4, 4, 96, 46, 42, 21, 4, 5, 96, 46, 182, 1, 116, 54, 6, 167, 0, 57, 43, 42, 21, 4, 4, 96, 46, 45, 184, 1, 117, 54, 5, 44, 42, 21, 4, 4, 96, 46, 182]
def bl_38 : List UInt8 := [1, 119, 54, 6, 167, 0, 29, 43, 182, 1, 120, 87, 44, 182, 1, 124, 87, 167, 0, 16, 43, 182, 1, 125, 88, 44, 182, 1, 129, 88, 167, 0, 3, 132, 4, 6, 167, 246, 119, 4, 172]
def bs_38 : List UInt8 := bl_38
def bs_37 : List UInt8 := bl_37 ++ bs_38
def bs_36 : List UInt8 := bl_36 ++ bs_37
def bs_35 : List UInt8 := bl_35 ++ bs_36
def bs_34 : List UInt8 := bl_34 ++ bs_35
def bs_33 : List UInt8 := bl_33 ++ bs_34
def bs_32 : List UInt8 := bl_32 ++ bs_33
def bs_31 : List UInt8 := bl_31 ++ bs_32
def bs_30 : List UInt8 := bl_30 ++ bs_31
def bs_29 : List UInt8 := bl_29 ++ bs_30
def bs_28 : List UInt8 := bl_28 ++ bs_29
def bs_27 : List UInt8 := bl_27 ++ bs_28
def bs_26 : List UInt8 := bl_26 ++ bs_27
def bs_25 : List UInt8 := bl_25 ++ bs_26
def bs_24 : List UInt8 := bl_24 ++ bs_25
def bs_23 : List UInt8 := bl_23 ++ bs_24
def bs_22 : List UInt8 := bl_22 ++ bs_23
def bs_21 : List UInt8 := bl_21 ++ bs_22
def bs_20 : List UInt8 := bl_20 ++ bs_21
def bs_19 : List UInt8 := bl_19 ++ bs_20
def bs_18 : List UInt8 := bl_18 ++ bs_19
def bs_17 : List UInt8 := bl_17 ++ bs_18
def bs_16 : List UInt8 := bl_16 ++ bs_17
def bs_15 : List UInt8 := bl_15 ++ bs_16
def bs_14 : List UInt8 := bl_14 ++ bs_15
def bs_13 : List UInt8 := bl_13 ++ bs_14
def bs_12 : List UInt8 := bl_12 ++ bs_13
def bs_11 : List UInt8 := bl_11 ++ bs_12
def bs_10 : List UInt8 := bl_10 ++ bs_11
def bs_9 : List UInt8 := bl_9 ++ bs_10
def bs_8 : List UInt8 := bl_8 ++ bs_9
def bs_7 : List UInt8 := bl_7 ++ bs_8
def bs_6 : List UInt8 := bl_6 ++ bs_7
def bs_5 : List UInt8 := bl_5 ++ bs_6
def bs_4 : List UInt8 := bl_4 ++ bs_5
def bs_3 : List UInt8 := bl_3 ++ bs_4
def bs_2 : List UInt8 := bl_2 ++ bs_3
def bs_1 : List UInt8 := bl_1 ++ bs_2
def bs_0 : List UInt8 := bl_0 ++ bs_1
set_option maxRecDepth 1000000 in
theorem bk_w : cL_law.data.toList = bs_0 := by decide +kernel
theorem bk_d0 (j : Nat) : cL_law.data.toList[0 + j]? = bs_0[j]? := by rw [bk_w, Nat.zero_add]
theorem bk_d1 (j : Nat) : cL_law.data.toList[64 + j]? = bs_1[j]? := by
  have h := bk_d0 (64 + j)
  rw [show 0 + (64 + j) = 64 + j by omega] at h
  rw [h]
  show (bl_0 ++ bs_1)[64 + j]? = _
  rw [List.getElem?_append_right (by show 64 ≤ 64 + j; omega), show 64 + j - bl_0.length = j by show 64 + j - 64 = j; omega]
theorem bk_d2 (j : Nat) : cL_law.data.toList[128 + j]? = bs_2[j]? := by
  have h := bk_d1 (64 + j)
  rw [show 64 + (64 + j) = 128 + j by omega] at h
  rw [h]
  show (bl_1 ++ bs_2)[64 + j]? = _
  rw [List.getElem?_append_right (by show 64 ≤ 64 + j; omega), show 64 + j - bl_1.length = j by show 64 + j - 64 = j; omega]
theorem bk_d3 (j : Nat) : cL_law.data.toList[192 + j]? = bs_3[j]? := by
  have h := bk_d2 (64 + j)
  rw [show 128 + (64 + j) = 192 + j by omega] at h
  rw [h]
  show (bl_2 ++ bs_3)[64 + j]? = _
  rw [List.getElem?_append_right (by show 64 ≤ 64 + j; omega), show 64 + j - bl_2.length = j by show 64 + j - 64 = j; omega]
theorem bk_d4 (j : Nat) : cL_law.data.toList[256 + j]? = bs_4[j]? := by
  have h := bk_d3 (64 + j)
  rw [show 192 + (64 + j) = 256 + j by omega] at h
  rw [h]
  show (bl_3 ++ bs_4)[64 + j]? = _
  rw [List.getElem?_append_right (by show 64 ≤ 64 + j; omega), show 64 + j - bl_3.length = j by show 64 + j - 64 = j; omega]
theorem bk_d5 (j : Nat) : cL_law.data.toList[320 + j]? = bs_5[j]? := by
  have h := bk_d4 (64 + j)
  rw [show 256 + (64 + j) = 320 + j by omega] at h
  rw [h]
  show (bl_4 ++ bs_5)[64 + j]? = _
  rw [List.getElem?_append_right (by show 64 ≤ 64 + j; omega), show 64 + j - bl_4.length = j by show 64 + j - 64 = j; omega]
theorem bk_d6 (j : Nat) : cL_law.data.toList[384 + j]? = bs_6[j]? := by
  have h := bk_d5 (64 + j)
  rw [show 320 + (64 + j) = 384 + j by omega] at h
  rw [h]
  show (bl_5 ++ bs_6)[64 + j]? = _
  rw [List.getElem?_append_right (by show 64 ≤ 64 + j; omega), show 64 + j - bl_5.length = j by show 64 + j - 64 = j; omega]
theorem bk_d7 (j : Nat) : cL_law.data.toList[448 + j]? = bs_7[j]? := by
  have h := bk_d6 (64 + j)
  rw [show 384 + (64 + j) = 448 + j by omega] at h
  rw [h]
  show (bl_6 ++ bs_7)[64 + j]? = _
  rw [List.getElem?_append_right (by show 64 ≤ 64 + j; omega), show 64 + j - bl_6.length = j by show 64 + j - 64 = j; omega]
theorem bk_d8 (j : Nat) : cL_law.data.toList[512 + j]? = bs_8[j]? := by
  have h := bk_d7 (64 + j)
  rw [show 448 + (64 + j) = 512 + j by omega] at h
  rw [h]
  show (bl_7 ++ bs_8)[64 + j]? = _
  rw [List.getElem?_append_right (by show 64 ≤ 64 + j; omega), show 64 + j - bl_7.length = j by show 64 + j - 64 = j; omega]
theorem bk_d9 (j : Nat) : cL_law.data.toList[576 + j]? = bs_9[j]? := by
  have h := bk_d8 (64 + j)
  rw [show 512 + (64 + j) = 576 + j by omega] at h
  rw [h]
  show (bl_8 ++ bs_9)[64 + j]? = _
  rw [List.getElem?_append_right (by show 64 ≤ 64 + j; omega), show 64 + j - bl_8.length = j by show 64 + j - 64 = j; omega]
theorem bk_d10 (j : Nat) : cL_law.data.toList[640 + j]? = bs_10[j]? := by
  have h := bk_d9 (64 + j)
  rw [show 576 + (64 + j) = 640 + j by omega] at h
  rw [h]
  show (bl_9 ++ bs_10)[64 + j]? = _
  rw [List.getElem?_append_right (by show 64 ≤ 64 + j; omega), show 64 + j - bl_9.length = j by show 64 + j - 64 = j; omega]
theorem bk_d11 (j : Nat) : cL_law.data.toList[704 + j]? = bs_11[j]? := by
  have h := bk_d10 (64 + j)
  rw [show 640 + (64 + j) = 704 + j by omega] at h
  rw [h]
  show (bl_10 ++ bs_11)[64 + j]? = _
  rw [List.getElem?_append_right (by show 64 ≤ 64 + j; omega), show 64 + j - bl_10.length = j by show 64 + j - 64 = j; omega]
theorem bk_d12 (j : Nat) : cL_law.data.toList[768 + j]? = bs_12[j]? := by
  have h := bk_d11 (64 + j)
  rw [show 704 + (64 + j) = 768 + j by omega] at h
  rw [h]
  show (bl_11 ++ bs_12)[64 + j]? = _
  rw [List.getElem?_append_right (by show 64 ≤ 64 + j; omega), show 64 + j - bl_11.length = j by show 64 + j - 64 = j; omega]
theorem bk_d13 (j : Nat) : cL_law.data.toList[832 + j]? = bs_13[j]? := by
  have h := bk_d12 (64 + j)
  rw [show 768 + (64 + j) = 832 + j by omega] at h
  rw [h]
  show (bl_12 ++ bs_13)[64 + j]? = _
  rw [List.getElem?_append_right (by show 64 ≤ 64 + j; omega), show 64 + j - bl_12.length = j by show 64 + j - 64 = j; omega]
theorem bk_d14 (j : Nat) : cL_law.data.toList[896 + j]? = bs_14[j]? := by
  have h := bk_d13 (64 + j)
  rw [show 832 + (64 + j) = 896 + j by omega] at h
  rw [h]
  show (bl_13 ++ bs_14)[64 + j]? = _
  rw [List.getElem?_append_right (by show 64 ≤ 64 + j; omega), show 64 + j - bl_13.length = j by show 64 + j - 64 = j; omega]
theorem bk_d15 (j : Nat) : cL_law.data.toList[960 + j]? = bs_15[j]? := by
  have h := bk_d14 (64 + j)
  rw [show 896 + (64 + j) = 960 + j by omega] at h
  rw [h]
  show (bl_14 ++ bs_15)[64 + j]? = _
  rw [List.getElem?_append_right (by show 64 ≤ 64 + j; omega), show 64 + j - bl_14.length = j by show 64 + j - 64 = j; omega]
theorem bk_d16 (j : Nat) : cL_law.data.toList[1024 + j]? = bs_16[j]? := by
  have h := bk_d15 (64 + j)
  rw [show 960 + (64 + j) = 1024 + j by omega] at h
  rw [h]
  show (bl_15 ++ bs_16)[64 + j]? = _
  rw [List.getElem?_append_right (by show 64 ≤ 64 + j; omega), show 64 + j - bl_15.length = j by show 64 + j - 64 = j; omega]
theorem bk_d17 (j : Nat) : cL_law.data.toList[1088 + j]? = bs_17[j]? := by
  have h := bk_d16 (64 + j)
  rw [show 1024 + (64 + j) = 1088 + j by omega] at h
  rw [h]
  show (bl_16 ++ bs_17)[64 + j]? = _
  rw [List.getElem?_append_right (by show 64 ≤ 64 + j; omega), show 64 + j - bl_16.length = j by show 64 + j - 64 = j; omega]
theorem bk_d18 (j : Nat) : cL_law.data.toList[1152 + j]? = bs_18[j]? := by
  have h := bk_d17 (64 + j)
  rw [show 1088 + (64 + j) = 1152 + j by omega] at h
  rw [h]
  show (bl_17 ++ bs_18)[64 + j]? = _
  rw [List.getElem?_append_right (by show 64 ≤ 64 + j; omega), show 64 + j - bl_17.length = j by show 64 + j - 64 = j; omega]
theorem bk_d19 (j : Nat) : cL_law.data.toList[1216 + j]? = bs_19[j]? := by
  have h := bk_d18 (64 + j)
  rw [show 1152 + (64 + j) = 1216 + j by omega] at h
  rw [h]
  show (bl_18 ++ bs_19)[64 + j]? = _
  rw [List.getElem?_append_right (by show 64 ≤ 64 + j; omega), show 64 + j - bl_18.length = j by show 64 + j - 64 = j; omega]
theorem bk_d20 (j : Nat) : cL_law.data.toList[1280 + j]? = bs_20[j]? := by
  have h := bk_d19 (64 + j)
  rw [show 1216 + (64 + j) = 1280 + j by omega] at h
  rw [h]
  show (bl_19 ++ bs_20)[64 + j]? = _
  rw [List.getElem?_append_right (by show 64 ≤ 64 + j; omega), show 64 + j - bl_19.length = j by show 64 + j - 64 = j; omega]
theorem bk_d21 (j : Nat) : cL_law.data.toList[1344 + j]? = bs_21[j]? := by
  have h := bk_d20 (64 + j)
  rw [show 1280 + (64 + j) = 1344 + j by omega] at h
  rw [h]
  show (bl_20 ++ bs_21)[64 + j]? = _
  rw [List.getElem?_append_right (by show 64 ≤ 64 + j; omega), show 64 + j - bl_20.length = j by show 64 + j - 64 = j; omega]
theorem bk_d22 (j : Nat) : cL_law.data.toList[1408 + j]? = bs_22[j]? := by
  have h := bk_d21 (64 + j)
  rw [show 1344 + (64 + j) = 1408 + j by omega] at h
  rw [h]
  show (bl_21 ++ bs_22)[64 + j]? = _
  rw [List.getElem?_append_right (by show 64 ≤ 64 + j; omega), show 64 + j - bl_21.length = j by show 64 + j - 64 = j; omega]
theorem bk_d23 (j : Nat) : cL_law.data.toList[1472 + j]? = bs_23[j]? := by
  have h := bk_d22 (64 + j)
  rw [show 1408 + (64 + j) = 1472 + j by omega] at h
  rw [h]
  show (bl_22 ++ bs_23)[64 + j]? = _
  rw [List.getElem?_append_right (by show 64 ≤ 64 + j; omega), show 64 + j - bl_22.length = j by show 64 + j - 64 = j; omega]
theorem bk_d24 (j : Nat) : cL_law.data.toList[1536 + j]? = bs_24[j]? := by
  have h := bk_d23 (64 + j)
  rw [show 1472 + (64 + j) = 1536 + j by omega] at h
  rw [h]
  show (bl_23 ++ bs_24)[64 + j]? = _
  rw [List.getElem?_append_right (by show 64 ≤ 64 + j; omega), show 64 + j - bl_23.length = j by show 64 + j - 64 = j; omega]
theorem bk_d25 (j : Nat) : cL_law.data.toList[1600 + j]? = bs_25[j]? := by
  have h := bk_d24 (64 + j)
  rw [show 1536 + (64 + j) = 1600 + j by omega] at h
  rw [h]
  show (bl_24 ++ bs_25)[64 + j]? = _
  rw [List.getElem?_append_right (by show 64 ≤ 64 + j; omega), show 64 + j - bl_24.length = j by show 64 + j - 64 = j; omega]
theorem bk_d26 (j : Nat) : cL_law.data.toList[1664 + j]? = bs_26[j]? := by
  have h := bk_d25 (64 + j)
  rw [show 1600 + (64 + j) = 1664 + j by omega] at h
  rw [h]
  show (bl_25 ++ bs_26)[64 + j]? = _
  rw [List.getElem?_append_right (by show 64 ≤ 64 + j; omega), show 64 + j - bl_25.length = j by show 64 + j - 64 = j; omega]
theorem bk_d27 (j : Nat) : cL_law.data.toList[1728 + j]? = bs_27[j]? := by
  have h := bk_d26 (64 + j)
  rw [show 1664 + (64 + j) = 1728 + j by omega] at h
  rw [h]
  show (bl_26 ++ bs_27)[64 + j]? = _
  rw [List.getElem?_append_right (by show 64 ≤ 64 + j; omega), show 64 + j - bl_26.length = j by show 64 + j - 64 = j; omega]
theorem bk_d28 (j : Nat) : cL_law.data.toList[1792 + j]? = bs_28[j]? := by
  have h := bk_d27 (64 + j)
  rw [show 1728 + (64 + j) = 1792 + j by omega] at h
  rw [h]
  show (bl_27 ++ bs_28)[64 + j]? = _
  rw [List.getElem?_append_right (by show 64 ≤ 64 + j; omega), show 64 + j - bl_27.length = j by show 64 + j - 64 = j; omega]
theorem bk_d29 (j : Nat) : cL_law.data.toList[1856 + j]? = bs_29[j]? := by
  have h := bk_d28 (64 + j)
  rw [show 1792 + (64 + j) = 1856 + j by omega] at h
  rw [h]
  show (bl_28 ++ bs_29)[64 + j]? = _
  rw [List.getElem?_append_right (by show 64 ≤ 64 + j; omega), show 64 + j - bl_28.length = j by show 64 + j - 64 = j; omega]
theorem bk_d30 (j : Nat) : cL_law.data.toList[1920 + j]? = bs_30[j]? := by
  have h := bk_d29 (64 + j)
  rw [show 1856 + (64 + j) = 1920 + j by omega] at h
  rw [h]
  show (bl_29 ++ bs_30)[64 + j]? = _
  rw [List.getElem?_append_right (by show 64 ≤ 64 + j; omega), show 64 + j - bl_29.length = j by show 64 + j - 64 = j; omega]
theorem bk_d31 (j : Nat) : cL_law.data.toList[1984 + j]? = bs_31[j]? := by
  have h := bk_d30 (64 + j)
  rw [show 1920 + (64 + j) = 1984 + j by omega] at h
  rw [h]
  show (bl_30 ++ bs_31)[64 + j]? = _
  rw [List.getElem?_append_right (by show 64 ≤ 64 + j; omega), show 64 + j - bl_30.length = j by show 64 + j - 64 = j; omega]
theorem bk_d32 (j : Nat) : cL_law.data.toList[2048 + j]? = bs_32[j]? := by
  have h := bk_d31 (64 + j)
  rw [show 1984 + (64 + j) = 2048 + j by omega] at h
  rw [h]
  show (bl_31 ++ bs_32)[64 + j]? = _
  rw [List.getElem?_append_right (by show 64 ≤ 64 + j; omega), show 64 + j - bl_31.length = j by show 64 + j - 64 = j; omega]
theorem bk_d33 (j : Nat) : cL_law.data.toList[2112 + j]? = bs_33[j]? := by
  have h := bk_d32 (64 + j)
  rw [show 2048 + (64 + j) = 2112 + j by omega] at h
  rw [h]
  show (bl_32 ++ bs_33)[64 + j]? = _
  rw [List.getElem?_append_right (by show 64 ≤ 64 + j; omega), show 64 + j - bl_32.length = j by show 64 + j - 64 = j; omega]
theorem bk_d34 (j : Nat) : cL_law.data.toList[2176 + j]? = bs_34[j]? := by
  have h := bk_d33 (64 + j)
  rw [show 2112 + (64 + j) = 2176 + j by omega] at h
  rw [h]
  show (bl_33 ++ bs_34)[64 + j]? = _
  rw [List.getElem?_append_right (by show 64 ≤ 64 + j; omega), show 64 + j - bl_33.length = j by show 64 + j - 64 = j; omega]
theorem bk_d35 (j : Nat) : cL_law.data.toList[2240 + j]? = bs_35[j]? := by
  have h := bk_d34 (64 + j)
  rw [show 2176 + (64 + j) = 2240 + j by omega] at h
  rw [h]
  show (bl_34 ++ bs_35)[64 + j]? = _
  rw [List.getElem?_append_right (by show 64 ≤ 64 + j; omega), show 64 + j - bl_34.length = j by show 64 + j - 64 = j; omega]
theorem bk_d36 (j : Nat) : cL_law.data.toList[2304 + j]? = bs_36[j]? := by
  have h := bk_d35 (64 + j)
  rw [show 2240 + (64 + j) = 2304 + j by omega] at h
  rw [h]
  show (bl_35 ++ bs_36)[64 + j]? = _
  rw [List.getElem?_append_right (by show 64 ≤ 64 + j; omega), show 64 + j - bl_35.length = j by show 64 + j - 64 = j; omega]
theorem bk_d37 (j : Nat) : cL_law.data.toList[2368 + j]? = bs_37[j]? := by
  have h := bk_d36 (64 + j)
  rw [show 2304 + (64 + j) = 2368 + j by omega] at h
  rw [h]
  show (bl_36 ++ bs_37)[64 + j]? = _
  rw [List.getElem?_append_right (by show 64 ≤ 64 + j; omega), show 64 + j - bl_36.length = j by show 64 + j - 64 = j; omega]
theorem bk_d38 (j : Nat) : cL_law.data.toList[2432 + j]? = bs_38[j]? := by
  have h := bk_d37 (64 + j)
  rw [show 2368 + (64 + j) = 2432 + j by omega] at h
  rw [h]
  show (bl_37 ++ bs_38)[64 + j]? = _
  rw [List.getElem?_append_right (by show 64 ≤ 64 + j; omega), show 64 + j - bl_37.length = j by show 64 + j - 64 = j; omega]
theorem bk_38 {j b : Nat} {u : UInt8} (h : bl_38[j]? = some u) (hb : u.toNat = b) : bq cL_law (2432 + j) b := by
  refine ⟨u, ?_, hb⟩
  rw [bk_d38 j]
  exact h
theorem by16 {c : ByteArray} {k : Nat} {u0 u1 u2 u3 u4 u5 u6 u7 u8 u9 u10 u11 u12 u13 u14 u15 : UInt8} {t : List UInt8} (h : ∀ j : Nat, c.data.toList[k + j]? = (u0 :: u1 :: u2 :: u3 :: u4 :: u5 :: u6 :: u7 :: u8 :: u9 :: u10 :: u11 :: u12 :: u13 :: u14 :: u15 :: t)[j]?) : ((((bq c (k + 0) u0.toNat ∧ bq c (k + 1) u1.toNat) ∧ (bq c (k + 2) u2.toNat ∧ bq c (k + 3) u3.toNat)) ∧ ((bq c (k + 4) u4.toNat ∧ bq c (k + 5) u5.toNat) ∧ (bq c (k + 6) u6.toNat ∧ bq c (k + 7) u7.toNat))) ∧ (((bq c (k + 8) u8.toNat ∧ bq c (k + 9) u9.toNat) ∧ (bq c (k + 10) u10.toNat ∧ bq c (k + 11) u11.toNat)) ∧ ((bq c (k + 12) u12.toNat ∧ bq c (k + 13) u13.toNat) ∧ (bq c (k + 14) u14.toNat ∧ bq c (k + 15) u15.toNat)))) ∧ ∀ j : Nat, c.data.toList[k + 16 + j]? = t[j]? := by
  refine ⟨⟨⟨⟨⟨⟨u0, (h 0).trans rfl, rfl⟩, ⟨u1, (h 1).trans rfl, rfl⟩⟩, ⟨⟨u2, (h 2).trans rfl, rfl⟩, ⟨u3, (h 3).trans rfl, rfl⟩⟩⟩, ⟨⟨⟨u4, (h 4).trans rfl, rfl⟩, ⟨u5, (h 5).trans rfl, rfl⟩⟩, ⟨⟨u6, (h 6).trans rfl, rfl⟩, ⟨u7, (h 7).trans rfl, rfl⟩⟩⟩⟩, ⟨⟨⟨⟨u8, (h 8).trans rfl, rfl⟩, ⟨u9, (h 9).trans rfl, rfl⟩⟩, ⟨⟨u10, (h 10).trans rfl, rfl⟩, ⟨u11, (h 11).trans rfl, rfl⟩⟩⟩, ⟨⟨⟨u12, (h 12).trans rfl, rfl⟩, ⟨u13, (h 13).trans rfl, rfl⟩⟩, ⟨⟨u14, (h 14).trans rfl, rfl⟩, ⟨u15, (h 15).trans rfl, rfl⟩⟩⟩⟩⟩, fun j => ?_⟩
  have e := h (16 + j)
  rw [← Nat.add_assoc] at e
  refine e.trans ?_
  show ([u0, u1, u2, u3, u4, u5, u6, u7, u8, u9, u10, u11, u12, u13, u14, u15] ++ t)[16 + j]? = t[j]?
  rw [List.getElem?_append_right (by show 16 ≤ 16 + j; omega)]
  show t[16 + j - 16]? = t[j]?
  rw [Nat.add_sub_cancel_left]
def by_0_0 := by16 (c := cL_law) (k := 0) bk_d0
def by_0_16 := by16 (c := cL_law) (k := 16) by_0_0.2
def by_0_32 := by16 (c := cL_law) (k := 32) by_0_16.2
def by_4_0 := by16 (c := cL_law) (k := 256) bk_d4
def by_4_16 := by16 (c := cL_law) (k := 272) by_4_0.2
def by_4_32 := by16 (c := cL_law) (k := 288) by_4_16.2
def by_4_48 := by16 (c := cL_law) (k := 304) by_4_32.2
def by_5_0 := by16 (c := cL_law) (k := 320) bk_d5
def by_5_16 := by16 (c := cL_law) (k := 336) by_5_0.2
def by_5_32 := by16 (c := cL_law) (k := 352) by_5_16.2
def by_5_48 := by16 (c := cL_law) (k := 368) by_5_32.2
def by_6_0 := by16 (c := cL_law) (k := 384) bk_d6
def by_6_16 := by16 (c := cL_law) (k := 400) by_6_0.2
def by_6_32 := by16 (c := cL_law) (k := 416) by_6_16.2
def by_6_48 := by16 (c := cL_law) (k := 432) by_6_32.2
def by_7_0 := by16 (c := cL_law) (k := 448) bk_d7
def by_7_16 := by16 (c := cL_law) (k := 464) by_7_0.2
def by_7_32 := by16 (c := cL_law) (k := 480) by_7_16.2
def by_7_48 := by16 (c := cL_law) (k := 496) by_7_32.2
def by_8_0 := by16 (c := cL_law) (k := 512) bk_d8
def by_8_16 := by16 (c := cL_law) (k := 528) by_8_0.2
def by_8_32 := by16 (c := cL_law) (k := 544) by_8_16.2
def by_8_48 := by16 (c := cL_law) (k := 560) by_8_32.2
def by_9_0 := by16 (c := cL_law) (k := 576) bk_d9
def by_9_16 := by16 (c := cL_law) (k := 592) by_9_0.2
def by_9_32 := by16 (c := cL_law) (k := 608) by_9_16.2
def by_9_48 := by16 (c := cL_law) (k := 624) by_9_32.2
def by_10_0 := by16 (c := cL_law) (k := 640) bk_d10
def by_10_16 := by16 (c := cL_law) (k := 656) by_10_0.2
def by_10_32 := by16 (c := cL_law) (k := 672) by_10_16.2
def by_10_48 := by16 (c := cL_law) (k := 688) by_10_32.2
def by_11_0 := by16 (c := cL_law) (k := 704) bk_d11
def by_11_16 := by16 (c := cL_law) (k := 720) by_11_0.2
def by_11_32 := by16 (c := cL_law) (k := 736) by_11_16.2
def by_11_48 := by16 (c := cL_law) (k := 752) by_11_32.2
def by_12_0 := by16 (c := cL_law) (k := 768) bk_d12
def by_12_16 := by16 (c := cL_law) (k := 784) by_12_0.2
def by_12_32 := by16 (c := cL_law) (k := 800) by_12_16.2
def by_12_48 := by16 (c := cL_law) (k := 816) by_12_32.2
def by_13_0 := by16 (c := cL_law) (k := 832) bk_d13
def by_13_16 := by16 (c := cL_law) (k := 848) by_13_0.2
def by_13_32 := by16 (c := cL_law) (k := 864) by_13_16.2
def by_13_48 := by16 (c := cL_law) (k := 880) by_13_32.2
def by_14_0 := by16 (c := cL_law) (k := 896) bk_d14
def by_14_16 := by16 (c := cL_law) (k := 912) by_14_0.2
def by_14_32 := by16 (c := cL_law) (k := 928) by_14_16.2
def by_14_48 := by16 (c := cL_law) (k := 944) by_14_32.2
def by_15_0 := by16 (c := cL_law) (k := 960) bk_d15
def by_15_16 := by16 (c := cL_law) (k := 976) by_15_0.2
def by_15_32 := by16 (c := cL_law) (k := 992) by_15_16.2
def by_15_48 := by16 (c := cL_law) (k := 1008) by_15_32.2
def by_16_0 := by16 (c := cL_law) (k := 1024) bk_d16
def by_16_16 := by16 (c := cL_law) (k := 1040) by_16_0.2
def by_16_32 := by16 (c := cL_law) (k := 1056) by_16_16.2
def by_16_48 := by16 (c := cL_law) (k := 1072) by_16_32.2
def by_17_0 := by16 (c := cL_law) (k := 1088) bk_d17
def by_17_16 := by16 (c := cL_law) (k := 1104) by_17_0.2
def by_17_32 := by16 (c := cL_law) (k := 1120) by_17_16.2
def by_17_48 := by16 (c := cL_law) (k := 1136) by_17_32.2
def by_18_0 := by16 (c := cL_law) (k := 1152) bk_d18
def by_18_16 := by16 (c := cL_law) (k := 1168) by_18_0.2
def by_18_32 := by16 (c := cL_law) (k := 1184) by_18_16.2
def by_18_48 := by16 (c := cL_law) (k := 1200) by_18_32.2
def by_19_0 := by16 (c := cL_law) (k := 1216) bk_d19
def by_19_16 := by16 (c := cL_law) (k := 1232) by_19_0.2
def by_19_32 := by16 (c := cL_law) (k := 1248) by_19_16.2
def by_19_48 := by16 (c := cL_law) (k := 1264) by_19_32.2
def by_20_0 := by16 (c := cL_law) (k := 1280) bk_d20
def by_20_16 := by16 (c := cL_law) (k := 1296) by_20_0.2
def by_20_32 := by16 (c := cL_law) (k := 1312) by_20_16.2
def by_20_48 := by16 (c := cL_law) (k := 1328) by_20_32.2
def by_21_0 := by16 (c := cL_law) (k := 1344) bk_d21
def by_21_16 := by16 (c := cL_law) (k := 1360) by_21_0.2
def by_21_32 := by16 (c := cL_law) (k := 1376) by_21_16.2
def by_21_48 := by16 (c := cL_law) (k := 1392) by_21_32.2
def by_22_0 := by16 (c := cL_law) (k := 1408) bk_d22
def by_22_16 := by16 (c := cL_law) (k := 1424) by_22_0.2
def by_22_32 := by16 (c := cL_law) (k := 1440) by_22_16.2
def by_22_48 := by16 (c := cL_law) (k := 1456) by_22_32.2
def by_23_0 := by16 (c := cL_law) (k := 1472) bk_d23
def by_23_16 := by16 (c := cL_law) (k := 1488) by_23_0.2
def by_23_32 := by16 (c := cL_law) (k := 1504) by_23_16.2
def by_23_48 := by16 (c := cL_law) (k := 1520) by_23_32.2
def by_24_0 := by16 (c := cL_law) (k := 1536) bk_d24
def by_24_16 := by16 (c := cL_law) (k := 1552) by_24_0.2
def by_24_32 := by16 (c := cL_law) (k := 1568) by_24_16.2
def by_24_48 := by16 (c := cL_law) (k := 1584) by_24_32.2
def by_25_0 := by16 (c := cL_law) (k := 1600) bk_d25
def by_25_16 := by16 (c := cL_law) (k := 1616) by_25_0.2
def by_25_32 := by16 (c := cL_law) (k := 1632) by_25_16.2
def by_25_48 := by16 (c := cL_law) (k := 1648) by_25_32.2
def by_26_0 := by16 (c := cL_law) (k := 1664) bk_d26
def by_26_16 := by16 (c := cL_law) (k := 1680) by_26_0.2
def by_26_32 := by16 (c := cL_law) (k := 1696) by_26_16.2
def by_26_48 := by16 (c := cL_law) (k := 1712) by_26_32.2
def by_27_0 := by16 (c := cL_law) (k := 1728) bk_d27
def by_27_16 := by16 (c := cL_law) (k := 1744) by_27_0.2
def by_27_32 := by16 (c := cL_law) (k := 1760) by_27_16.2
def by_27_48 := by16 (c := cL_law) (k := 1776) by_27_32.2
def by_28_0 := by16 (c := cL_law) (k := 1792) bk_d28
def by_28_16 := by16 (c := cL_law) (k := 1808) by_28_0.2
def by_28_32 := by16 (c := cL_law) (k := 1824) by_28_16.2
def by_28_48 := by16 (c := cL_law) (k := 1840) by_28_32.2
def by_29_0 := by16 (c := cL_law) (k := 1856) bk_d29
def by_29_16 := by16 (c := cL_law) (k := 1872) by_29_0.2
def by_29_32 := by16 (c := cL_law) (k := 1888) by_29_16.2
def by_29_48 := by16 (c := cL_law) (k := 1904) by_29_32.2
def by_30_0 := by16 (c := cL_law) (k := 1920) bk_d30
def by_30_16 := by16 (c := cL_law) (k := 1936) by_30_0.2
def by_30_32 := by16 (c := cL_law) (k := 1952) by_30_16.2
def by_30_48 := by16 (c := cL_law) (k := 1968) by_30_32.2
def by_31_0 := by16 (c := cL_law) (k := 1984) bk_d31
def by_31_16 := by16 (c := cL_law) (k := 2000) by_31_0.2
def by_31_32 := by16 (c := cL_law) (k := 2016) by_31_16.2
def by_31_48 := by16 (c := cL_law) (k := 2032) by_31_32.2
def by_32_0 := by16 (c := cL_law) (k := 2048) bk_d32
def by_32_16 := by16 (c := cL_law) (k := 2064) by_32_0.2
def by_32_32 := by16 (c := cL_law) (k := 2080) by_32_16.2
def by_32_48 := by16 (c := cL_law) (k := 2096) by_32_32.2
def by_33_0 := by16 (c := cL_law) (k := 2112) bk_d33
def by_33_16 := by16 (c := cL_law) (k := 2128) by_33_0.2
def by_33_32 := by16 (c := cL_law) (k := 2144) by_33_16.2
def by_33_48 := by16 (c := cL_law) (k := 2160) by_33_32.2
def by_34_0 := by16 (c := cL_law) (k := 2176) bk_d34
def by_34_16 := by16 (c := cL_law) (k := 2192) by_34_0.2
def by_34_32 := by16 (c := cL_law) (k := 2208) by_34_16.2
def by_34_48 := by16 (c := cL_law) (k := 2224) by_34_32.2
def by_35_0 := by16 (c := cL_law) (k := 2240) bk_d35
def by_35_16 := by16 (c := cL_law) (k := 2256) by_35_0.2
def by_35_32 := by16 (c := cL_law) (k := 2272) by_35_16.2
def by_35_48 := by16 (c := cL_law) (k := 2288) by_35_32.2
def by_36_0 := by16 (c := cL_law) (k := 2304) bk_d36
def by_36_16 := by16 (c := cL_law) (k := 2320) by_36_0.2
def by_36_32 := by16 (c := cL_law) (k := 2336) by_36_16.2
def by_36_48 := by16 (c := cL_law) (k := 2352) by_36_32.2
def by_37_0 := by16 (c := cL_law) (k := 2368) bk_d37
def by_37_16 := by16 (c := cL_law) (k := 2384) by_37_0.2
def by_37_32 := by16 (c := cL_law) (k := 2400) by_37_16.2
def by_37_48 := by16 (c := cL_law) (k := 2416) by_37_32.2
def by_38_0 := by16 (c := cL_law) (k := 2432) bk_d38
def by_38_16 := by16 (c := cL_law) (k := 2448) by_38_0.2
theorem dq_187 {c : ByteArray} {p a b n : Nat} (h0 : bq c p 187) (h1 : bq c (p + 1) a) (h2 : bq c (p + 2) b) (hz : a * 256 + b = n) : decode c p = .ok (Instr.new n, 3) := by
  subst hz
  unfold decode Decoder.instr
  rw [bq_b (bq_r1 h0)]
  show (do let q ← Reader.runAt ((Reader.u2 : Decoder Nat) >>= fun x => pure (Instr.new x)) c (p + 1); pure (q.1, q.2 - p) : Except DecodeError (Instr × Nat)) = _
  rw [bq_b (bq_r2 h1 h2)]
  show Except.ok (Instr.new (a * 256 + b), p + 1 + 2 - p) = _
  rw [show p + 1 + 2 - p = 3 by omega]
theorem dq_89 {c : ByteArray} {p : Nat} (h0 : bq c p 89) : decode c p = .ok (Instr.dup, 1) := by
  unfold decode Decoder.instr
  rw [bq_b (bq_r1 h0)]
  show Except.ok (Instr.dup, p + 1 - p) = _
  rw [Nat.add_sub_cancel_left]
theorem dq_183 {c : ByteArray} {p a b n : Nat} (h0 : bq c p 183) (h1 : bq c (p + 1) a) (h2 : bq c (p + 2) b) (hz : a * 256 + b = n) : decode c p = .ok (Instr.invokespecial n, 3) := by
  subst hz
  unfold decode Decoder.instr
  rw [bq_b (bq_r1 h0)]
  show (do let q ← Reader.runAt ((Reader.u2 : Decoder Nat) >>= fun x => pure (Instr.invokespecial x)) c (p + 1); pure (q.1, q.2 - p) : Except DecodeError (Instr × Nat)) = _
  rw [bq_b (bq_r2 h1 h2)]
  show Except.ok (Instr.invokespecial (a * 256 + b), p + 1 + 2 - p) = _
  rw [show p + 1 + 2 - p = 3 by omega]
theorem dq_76 {c : ByteArray} {p : Nat} (h0 : bq c p 76) : decode c p = .ok ((Instr.astore_n 1 : Instr), 1) := by
  unfold decode Decoder.instr
  rw [bq_b (bq_r1 h0)]
  show Except.ok ((Instr.astore_n 1 : Instr), p + 1 - p) = _
  rw [Nat.add_sub_cancel_left]
theorem dq_77 {c : ByteArray} {p : Nat} (h0 : bq c p 77) : decode c p = .ok ((Instr.astore_n 2 : Instr), 1) := by
  unfold decode Decoder.instr
  rw [bq_b (bq_r1 h0)]
  show Except.ok ((Instr.astore_n 2 : Instr), p + 1 - p) = _
  rw [Nat.add_sub_cancel_left]
theorem dq_78 {c : ByteArray} {p : Nat} (h0 : bq c p 78) : decode c p = .ok ((Instr.astore_n 3 : Instr), 1) := by
  unfold decode Decoder.instr
  rw [bq_b (bq_r1 h0)]
  show Except.ok ((Instr.astore_n 3 : Instr), p + 1 - p) = _
  rw [Nat.add_sub_cancel_left]
theorem dq_3 {c : ByteArray} {p : Nat} (h0 : bq c p 3) : decode c p = .ok ((Instr.iconst 0 : Instr), 1) := by
  unfold decode Decoder.instr
  rw [bq_b (bq_r1 h0)]
  show Except.ok ((Instr.iconst 0 : Instr), p + 1 - p) = _
  rw [Nat.add_sub_cancel_left]
theorem dq_54 {c : ByteArray} {p a : Nat} (h0 : bq c p 54) (h1 : bq c (p + 1) a) : decode c p = .ok (Instr.istore a, 2) := by
  unfold decode Decoder.instr
  rw [bq_b (bq_r1 h0)]
  show (do let q ← Reader.runAt ((Reader.u1 : Decoder Nat) >>= fun x => pure (Instr.istore x)) c (p + 1); pure (q.1, q.2 - p) : Except DecodeError (Instr × Nat)) = _
  rw [bq_b (bq_r1 h1)]
  show Except.ok (Instr.istore a, p + 1 + 1 - p) = _
  rw [show p + 1 + 1 - p = 2 by omega]
theorem dq_21 {c : ByteArray} {p a : Nat} (h0 : bq c p 21) (h1 : bq c (p + 1) a) : decode c p = .ok (Instr.iload a, 2) := by
  unfold decode Decoder.instr
  rw [bq_b (bq_r1 h0)]
  show (do let q ← Reader.runAt ((Reader.u1 : Decoder Nat) >>= fun x => pure (Instr.iload x)) c (p + 1); pure (q.1, q.2 - p) : Except DecodeError (Instr × Nat)) = _
  rw [bq_b (bq_r1 h1)]
  show Except.ok (Instr.iload a, p + 1 + 1 - p) = _
  rw [show p + 1 + 1 - p = 2 by omega]
theorem dq_42 {c : ByteArray} {p : Nat} (h0 : bq c p 42) : decode c p = .ok ((Instr.aload_n 0 : Instr), 1) := by
  unfold decode Decoder.instr
  rw [bq_b (bq_r1 h0)]
  show Except.ok ((Instr.aload_n 0 : Instr), p + 1 - p) = _
  rw [Nat.add_sub_cancel_left]
theorem dq_190 {c : ByteArray} {p : Nat} (h0 : bq c p 190) : decode c p = .ok (Instr.arraylength, 1) := by
  unfold decode Decoder.instr
  rw [bq_b (bq_r1 h0)]
  show Except.ok (Instr.arraylength, p + 1 - p) = _
  rw [Nat.add_sub_cancel_left]
theorem dq_16 {c : ByteArray} {p a : Nat} {z : Int} (h0 : bq c p 16) (h1 : bq c (p + 1) a) (hz : Reader.signed 8 a = z) : decode c p = .ok (Instr.bipush z, 2) := by
  subst hz
  unfold decode Decoder.instr
  rw [bq_b (bq_r1 h0)]
  show (do let q ← Reader.runAt ((Reader.s1 : Decoder Int) >>= fun x => pure (Instr.bipush x)) c (p + 1); pure (q.1, q.2 - p) : Except DecodeError (Instr × Nat)) = _
  rw [bq_b (bq_s1 h1)]
  show Except.ok (Instr.bipush (Reader.signed 8 a), p + 1 + 1 - p) = _
  rw [show p + 1 + 1 - p = 2 by omega]
theorem dq_100 {c : ByteArray} {p : Nat} (h0 : bq c p 100) : decode c p = .ok (Instr.isub, 1) := by
  unfold decode Decoder.instr
  rw [bq_b (bq_r1 h0)]
  show Except.ok (Instr.isub, p + 1 - p) = _
  rw [Nat.add_sub_cancel_left]
theorem dq_163 {c : ByteArray} {p a b : Nat} {z : Int} (h0 : bq c p 163) (h1 : bq c (p + 1) a) (h2 : bq c (p + 2) b) (hz : Reader.signed 16 (a * 256 + b) = z) : decode c p = .ok (Instr.if_icmp .gt z, 3) := by
  subst hz
  unfold decode Decoder.instr
  rw [bq_b (bq_r1 h0)]
  show (do let q ← Reader.runAt ((Reader.s2 : Decoder Int) >>= fun x => pure (Instr.if_icmp .gt x)) c (p + 1); pure (q.1, q.2 - p) : Except DecodeError (Instr × Nat)) = _
  rw [bq_b (bq_s2 h1 h2)]
  show Except.ok (Instr.if_icmp .gt (Reader.signed 16 (a * 256 + b)), p + 1 + 2 - p) = _
  rw [show p + 1 + 2 - p = 3 by omega]
theorem dq_46 {c : ByteArray} {p : Nat} (h0 : bq c p 46) : decode c p = .ok (Instr.iaload, 1) := by
  unfold decode Decoder.instr
  rw [bq_b (bq_r1 h0)]
  show Except.ok (Instr.iaload, p + 1 - p) = _
  rw [Nat.add_sub_cancel_left]
theorem dq_126 {c : ByteArray} {p : Nat} (h0 : bq c p 126) : decode c p = .ok (Instr.iand, 1) := by
  unfold decode Decoder.instr
  rw [bq_b (bq_r1 h0)]
  show Except.ok (Instr.iand, p + 1 - p) = _
  rw [Nat.add_sub_cancel_left]
theorem dq_43 {c : ByteArray} {p : Nat} (h0 : bq c p 43) : decode c p = .ok ((Instr.aload_n 1 : Instr), 1) := by
  unfold decode Decoder.instr
  rw [bq_b (bq_r1 h0)]
  show Except.ok ((Instr.aload_n 1 : Instr), p + 1 - p) = _
  rw [Nat.add_sub_cancel_left]
theorem dq_4 {c : ByteArray} {p : Nat} (h0 : bq c p 4) : decode c p = .ok ((Instr.iconst 1 : Instr), 1) := by
  unfold decode Decoder.instr
  rw [bq_b (bq_r1 h0)]
  show Except.ok ((Instr.iconst 1 : Instr), p + 1 - p) = _
  rw [Nat.add_sub_cancel_left]
theorem dq_96 {c : ByteArray} {p : Nat} (h0 : bq c p 96) : decode c p = .ok (Instr.iadd, 1) := by
  unfold decode Decoder.instr
  rw [bq_b (bq_r1 h0)]
  show Except.ok (Instr.iadd, p + 1 - p) = _
  rw [Nat.add_sub_cancel_left]
theorem dq_5 {c : ByteArray} {p : Nat} (h0 : bq c p 5) : decode c p = .ok ((Instr.iconst 2 : Instr), 1) := by
  unfold decode Decoder.instr
  rw [bq_b (bq_r1 h0)]
  show Except.ok ((Instr.iconst 2 : Instr), p + 1 - p) = _
  rw [Nat.add_sub_cancel_left]
theorem dq_6 {c : ByteArray} {p : Nat} (h0 : bq c p 6) : decode c p = .ok ((Instr.iconst 3 : Instr), 1) := by
  unfold decode Decoder.instr
  rw [bq_b (bq_r1 h0)]
  show Except.ok ((Instr.iconst 3 : Instr), p + 1 - p) = _
  rw [Nat.add_sub_cancel_left]
theorem dq_7 {c : ByteArray} {p : Nat} (h0 : bq c p 7) : decode c p = .ok ((Instr.iconst 4 : Instr), 1) := by
  unfold decode Decoder.instr
  rw [bq_b (bq_r1 h0)]
  show Except.ok ((Instr.iconst 4 : Instr), p + 1 - p) = _
  rw [Nat.add_sub_cancel_left]
theorem dq_8 {c : ByteArray} {p : Nat} (h0 : bq c p 8) : decode c p = .ok ((Instr.iconst 5 : Instr), 1) := by
  unfold decode Decoder.instr
  rw [bq_b (bq_r1 h0)]
  show Except.ok ((Instr.iconst 5 : Instr), p + 1 - p) = _
  rw [Nat.add_sub_cancel_left]
theorem dq_45 {c : ByteArray} {p : Nat} (h0 : bq c p 45) : decode c p = .ok ((Instr.aload_n 3 : Instr), 1) := by
  unfold decode Decoder.instr
  rw [bq_b (bq_r1 h0)]
  show Except.ok ((Instr.aload_n 3 : Instr), p + 1 - p) = _
  rw [Nat.add_sub_cancel_left]
theorem dq_184 {c : ByteArray} {p a b n : Nat} (h0 : bq c p 184) (h1 : bq c (p + 1) a) (h2 : bq c (p + 2) b) (hz : a * 256 + b = n) : decode c p = .ok (Instr.invokestatic n, 3) := by
  subst hz
  unfold decode Decoder.instr
  rw [bq_b (bq_r1 h0)]
  show (do let q ← Reader.runAt ((Reader.u2 : Decoder Nat) >>= fun x => pure (Instr.invokestatic x)) c (p + 1); pure (q.1, q.2 - p) : Except DecodeError (Instr × Nat)) = _
  rw [bq_b (bq_r2 h1 h2)]
  show Except.ok (Instr.invokestatic (a * 256 + b), p + 1 + 2 - p) = _
  rw [show p + 1 + 2 - p = 3 by omega]
theorem dq_44 {c : ByteArray} {p : Nat} (h0 : bq c p 44) : decode c p = .ok ((Instr.aload_n 2 : Instr), 1) := by
  unfold decode Decoder.instr
  rw [bq_b (bq_r1 h0)]
  show Except.ok ((Instr.aload_n 2 : Instr), p + 1 - p) = _
  rw [Nat.add_sub_cancel_left]
theorem dq_182 {c : ByteArray} {p a b n : Nat} (h0 : bq c p 182) (h1 : bq c (p + 1) a) (h2 : bq c (p + 2) b) (hz : a * 256 + b = n) : decode c p = .ok (Instr.invokevirtual n, 3) := by
  subst hz
  unfold decode Decoder.instr
  rw [bq_b (bq_r1 h0)]
  show (do let q ← Reader.runAt ((Reader.u2 : Decoder Nat) >>= fun x => pure (Instr.invokevirtual x)) c (p + 1); pure (q.1, q.2 - p) : Except DecodeError (Instr × Nat)) = _
  rw [bq_b (bq_r2 h1 h2)]
  show Except.ok (Instr.invokevirtual (a * 256 + b), p + 1 + 2 - p) = _
  rw [show p + 1 + 2 - p = 3 by omega]
theorem dq_167 {c : ByteArray} {p a b : Nat} {z : Int} (h0 : bq c p 167) (h1 : bq c (p + 1) a) (h2 : bq c (p + 2) b) (hz : Reader.signed 16 (a * 256 + b) = z) : decode c p = .ok (Instr.goto z, 3) := by
  subst hz
  unfold decode Decoder.instr
  rw [bq_b (bq_r1 h0)]
  show (do let q ← Reader.runAt ((Reader.s2 : Decoder Int) >>= fun x => pure (Instr.goto x)) c (p + 1); pure (q.1, q.2 - p) : Except DecodeError (Instr × Nat)) = _
  rw [bq_b (bq_s2 h1 h2)]
  show Except.ok (Instr.goto (Reader.signed 16 (a * 256 + b)), p + 1 + 2 - p) = _
  rw [show p + 1 + 2 - p = 3 by omega]
theorem dq_159 {c : ByteArray} {p a b : Nat} {z : Int} (h0 : bq c p 159) (h1 : bq c (p + 1) a) (h2 : bq c (p + 2) b) (hz : Reader.signed 16 (a * 256 + b) = z) : decode c p = .ok (Instr.if_icmp .eq z, 3) := by
  subst hz
  unfold decode Decoder.instr
  rw [bq_b (bq_r1 h0)]
  show (do let q ← Reader.runAt ((Reader.s2 : Decoder Int) >>= fun x => pure (Instr.if_icmp .eq x)) c (p + 1); pure (q.1, q.2 - p) : Except DecodeError (Instr × Nat)) = _
  rw [bq_b (bq_s2 h1 h2)]
  show Except.ok (Instr.if_icmp .eq (Reader.signed 16 (a * 256 + b)), p + 1 + 2 - p) = _
  rw [show p + 1 + 2 - p = 3 by omega]
theorem dq_172 {c : ByteArray} {p : Nat} (h0 : bq c p 172) : decode c p = .ok (Instr.ireturn, 1) := by
  unfold decode Decoder.instr
  rw [bq_b (bq_r1 h0)]
  show Except.ok (Instr.ireturn, p + 1 - p) = _
  rw [Nat.add_sub_cancel_left]
theorem dq_154 {c : ByteArray} {p a b : Nat} {z : Int} (h0 : bq c p 154) (h1 : bq c (p + 1) a) (h2 : bq c (p + 2) b) (hz : Reader.signed 16 (a * 256 + b) = z) : decode c p = .ok (Instr.ifCond .ne z, 3) := by
  subst hz
  unfold decode Decoder.instr
  rw [bq_b (bq_r1 h0)]
  show (do let q ← Reader.runAt ((Reader.s2 : Decoder Int) >>= fun x => pure (Instr.ifCond .ne x)) c (p + 1); pure (q.1, q.2 - p) : Except DecodeError (Instr × Nat)) = _
  rw [bq_b (bq_s2 h1 h2)]
  show Except.ok (Instr.ifCond .ne (Reader.signed 16 (a * 256 + b)), p + 1 + 2 - p) = _
  rw [show p + 1 + 2 - p = 3 by omega]
theorem dq_180 {c : ByteArray} {p a b n : Nat} (h0 : bq c p 180) (h1 : bq c (p + 1) a) (h2 : bq c (p + 2) b) (hz : a * 256 + b = n) : decode c p = .ok (Instr.getfield n, 3) := by
  subst hz
  unfold decode Decoder.instr
  rw [bq_b (bq_r1 h0)]
  show (do let q ← Reader.runAt ((Reader.u2 : Decoder Nat) >>= fun x => pure (Instr.getfield x)) c (p + 1); pure (q.1, q.2 - p) : Except DecodeError (Instr × Nat)) = _
  rw [bq_b (bq_r2 h1 h2)]
  show Except.ok (Instr.getfield (a * 256 + b), p + 1 + 2 - p) = _
  rw [show p + 1 + 2 - p = 3 by omega]
theorem dq_133 {c : ByteArray} {p : Nat} (h0 : bq c p 133) : decode c p = .ok (Instr.i2l, 1) := by
  unfold decode Decoder.instr
  rw [bq_b (bq_r1 h0)]
  show Except.ok (Instr.i2l, p + 1 - p) = _
  rw [Nat.add_sub_cancel_left]
theorem dq_148 {c : ByteArray} {p : Nat} (h0 : bq c p 148) : decode c p = .ok (Instr.lcmp, 1) := by
  unfold decode Decoder.instr
  rw [bq_b (bq_r1 h0)]
  show Except.ok (Instr.lcmp, p + 1 - p) = _
  rw [Nat.add_sub_cancel_left]
theorem dq_153 {c : ByteArray} {p a b : Nat} {z : Int} (h0 : bq c p 153) (h1 : bq c (p + 1) a) (h2 : bq c (p + 2) b) (hz : Reader.signed 16 (a * 256 + b) = z) : decode c p = .ok (Instr.ifCond .eq z, 3) := by
  subst hz
  unfold decode Decoder.instr
  rw [bq_b (bq_r1 h0)]
  show (do let q ← Reader.runAt ((Reader.s2 : Decoder Int) >>= fun x => pure (Instr.ifCond .eq x)) c (p + 1); pure (q.1, q.2 - p) : Except DecodeError (Instr × Nat)) = _
  rw [bq_b (bq_s2 h1 h2)]
  show Except.ok (Instr.ifCond .eq (Reader.signed 16 (a * 256 + b)), p + 1 + 2 - p) = _
  rw [show p + 1 + 2 - p = 3 by omega]
theorem dq_87 {c : ByteArray} {p : Nat} (h0 : bq c p 87) : decode c p = .ok (Instr.pop, 1) := by
  unfold decode Decoder.instr
  rw [bq_b (bq_r1 h0)]
  show Except.ok (Instr.pop, p + 1 - p) = _
  rw [Nat.add_sub_cancel_left]
theorem dq_58 {c : ByteArray} {p a : Nat} (h0 : bq c p 58) (h1 : bq c (p + 1) a) : decode c p = .ok (Instr.astore a, 2) := by
  unfold decode Decoder.instr
  rw [bq_b (bq_r1 h0)]
  show (do let q ← Reader.runAt ((Reader.u1 : Decoder Nat) >>= fun x => pure (Instr.astore x)) c (p + 1); pure (q.1, q.2 - p) : Except DecodeError (Instr × Nat)) = _
  rw [bq_b (bq_r1 h1)]
  show Except.ok (Instr.astore a, p + 1 + 1 - p) = _
  rw [show p + 1 + 1 - p = 2 by omega]
theorem dq_88 {c : ByteArray} {p : Nat} (h0 : bq c p 88) : decode c p = .ok (Instr.pop2, 1) := by
  unfold decode Decoder.instr
  rw [bq_b (bq_r1 h0)]
  show Except.ok (Instr.pop2, p + 1 - p) = _
  rw [Nat.add_sub_cancel_left]
theorem dL_law_0 : decode cL_law 0 = .ok (.new 8, 3) := dq_187 by_0_0.1.1.1.1.1 by_0_0.1.1.1.1.2 by_0_0.1.1.1.2.1 rfl
theorem dL_law_3 : decode cL_law 3 = .ok (.dup, 1) := dq_89 by_0_0.1.1.1.2.2
theorem dL_law_4 : decode cL_law 4 = .ok (.invokespecial 185, 3) := dq_183 by_0_0.1.1.2.1.1 by_0_0.1.1.2.1.2 by_0_0.1.1.2.2.1 rfl
theorem dL_law_7 : decode cL_law 7 = .ok (.astore_n 1, 1) := dq_76 by_0_0.1.1.2.2.2
theorem dL_law_8 : decode cL_law 8 = .ok (.new 186, 3) := dq_187 by_0_0.1.2.1.1.1 by_0_0.1.2.1.1.2 by_0_0.1.2.1.2.1 rfl
theorem dL_law_11 : decode cL_law 11 = .ok (.dup, 1) := dq_89 by_0_0.1.2.1.2.2
theorem dL_law_12 : decode cL_law 12 = .ok (.invokespecial 188, 3) := dq_183 by_0_0.1.2.2.1.1 by_0_0.1.2.2.1.2 by_0_0.1.2.2.2.1 rfl
theorem dL_law_15 : decode cL_law 15 = .ok (.astore_n 2, 1) := dq_77 by_0_0.1.2.2.2.2
theorem dL_law_16 : decode cL_law 16 = .ok (.new 14, 3) := dq_187 by_0_16.1.1.1.1.1 by_0_16.1.1.1.1.2 by_0_16.1.1.1.2.1 rfl
theorem dL_law_19 : decode cL_law 19 = .ok (.dup, 1) := dq_89 by_0_16.1.1.1.2.2
theorem dL_law_20 : decode cL_law 20 = .ok (.invokespecial 189, 3) := dq_183 by_0_16.1.1.2.1.1 by_0_16.1.1.2.1.2 by_0_16.1.1.2.2.1 rfl
theorem dL_law_23 : decode cL_law 23 = .ok (.astore_n 3, 1) := dq_78 by_0_16.1.1.2.2.2
theorem dL_law_24 : decode cL_law 24 = .ok (.iconst 0, 1) := dq_3 by_0_16.1.2.1.1.1
theorem dL_law_25 : decode cL_law 25 = .ok (.istore 4, 2) := dq_54 by_0_16.1.2.1.1.2 by_0_16.1.2.1.2.1
theorem dL_law_27 : decode cL_law 27 = .ok (.iload 4, 2) := dq_21 by_0_16.1.2.1.2.2 by_0_16.1.2.2.1.1
theorem dL_law_29 : decode cL_law 29 = .ok (.aload_n 0, 1) := dq_42 by_0_16.1.2.2.1.2
theorem dL_law_30 : decode cL_law 30 = .ok (.arraylength, 1) := dq_190 by_0_16.1.2.2.2.1
theorem dL_law_31 : decode cL_law 31 = .ok (.bipush 6, 2) := dq_16 by_0_16.1.2.2.2.2 by_0_32.1.1.1.1.1 (by decide)
theorem dL_law_33 : decode cL_law 33 = .ok (.isub, 1) := dq_100 by_0_32.1.1.1.1.2
theorem dL_law_34 : decode cL_law 34 = .ok (.if_icmp .gt 2437, 3) := dq_163 by_0_32.1.1.1.2.1 by_0_32.1.1.1.2.2 by_0_32.1.1.2.1.1 (by decide)
theorem dL_law_37 : decode cL_law 37 = .ok (.aload_n 0, 1) := dq_42 by_0_32.1.1.2.1.2
theorem dL_law_38 : decode cL_law 38 = .ok (.iload 4, 2) := dq_21 by_0_32.1.1.2.2.1 by_0_32.1.1.2.2.2
theorem dL_law_40 : decode cL_law 40 = .ok (.iaload, 1) := dq_46 by_0_32.1.2.1.1.1
theorem dL_law_41 : decode cL_law 41 = .ok (.bipush 63, 2) := dq_16 by_0_32.1.2.1.1.2 by_0_32.1.2.1.2.1 (by decide)
theorem dL_law_43 : decode cL_law 43 = .ok (.iand, 1) := dq_126 by_0_32.1.2.1.2.2
def dc_L_law_44 := dk1 (show dka cL_law [(44, .tableswitch 2421 0 57 #[248, 324, 364, 404, 461, 489, 557, 585, 613, 665, 705, 745, 785, 825, 865, 893, 921, 937, 950, 978, 1006, 1034, 1062, 1090, 1118, 1174, 1230, 1286, 1354, 1391, 1419, 1459, 1499, 1551, 1591, 1619, 1647, 1687, 1727, 1755, 1783, 1851, 1891, 1931, 1956, 1981, 2006, 2031, 2087, 2127, 2167, 2207, 2247, 2287, 2327, 2367, 2395, 2408], 248)] = true by decide +kernel)
theorem dL_law_292 : decode cL_law 292 = .ok (.aload_n 1, 1) := dq_43 by_4_32.1.1.2.1.1
theorem dL_law_293 : decode cL_law 293 = .ok (.aload_n 0, 1) := dq_42 by_4_32.1.1.2.1.2
theorem dL_law_294 : decode cL_law 294 = .ok (.iload 4, 2) := dq_21 by_4_32.1.1.2.2.1 by_4_32.1.1.2.2.2
theorem dL_law_296 : decode cL_law 296 = .ok (.iconst 1, 1) := dq_4 by_4_32.1.2.1.1.1
theorem dL_law_297 : decode cL_law 297 = .ok (.iadd, 1) := dq_96 by_4_32.1.2.1.1.2
theorem dL_law_298 : decode cL_law 298 = .ok (.iaload, 1) := dq_46 by_4_32.1.2.1.2.1
theorem dL_law_299 : decode cL_law 299 = .ok (.aload_n 0, 1) := dq_42 by_4_32.1.2.1.2.2
theorem dL_law_300 : decode cL_law 300 = .ok (.iload 4, 2) := dq_21 by_4_32.1.2.2.1.1 by_4_32.1.2.2.1.2
theorem dL_law_302 : decode cL_law 302 = .ok (.iconst 2, 1) := dq_5 by_4_32.1.2.2.2.1
theorem dL_law_303 : decode cL_law 303 = .ok (.iadd, 1) := dq_96 by_4_32.1.2.2.2.2
theorem dL_law_304 : decode cL_law 304 = .ok (.iaload, 1) := dq_46 by_4_48.1.1.1.1.1
theorem dL_law_305 : decode cL_law 305 = .ok (.aload_n 0, 1) := dq_42 by_4_48.1.1.1.1.2
theorem dL_law_306 : decode cL_law 306 = .ok (.iload 4, 2) := dq_21 by_4_48.1.1.1.2.1 by_4_48.1.1.1.2.2
theorem dL_law_308 : decode cL_law 308 = .ok (.iconst 3, 1) := dq_6 by_4_48.1.1.2.1.1
theorem dL_law_309 : decode cL_law 309 = .ok (.iadd, 1) := dq_96 by_4_48.1.1.2.1.2
theorem dL_law_310 : decode cL_law 310 = .ok (.iaload, 1) := dq_46 by_4_48.1.1.2.2.1
theorem dL_law_311 : decode cL_law 311 = .ok (.aload_n 0, 1) := dq_42 by_4_48.1.1.2.2.2
theorem dL_law_312 : decode cL_law 312 = .ok (.iload 4, 2) := dq_21 by_4_48.1.2.1.1.1 by_4_48.1.2.1.1.2
theorem dL_law_314 : decode cL_law 314 = .ok (.iconst 4, 1) := dq_7 by_4_48.1.2.1.2.1
theorem dL_law_315 : decode cL_law 315 = .ok (.iadd, 1) := dq_96 by_4_48.1.2.1.2.2
theorem dL_law_316 : decode cL_law 316 = .ok (.iaload, 1) := dq_46 by_4_48.1.2.2.1.1
theorem dL_law_317 : decode cL_law 317 = .ok (.aload_n 0, 1) := dq_42 by_4_48.1.2.2.1.2
theorem dL_law_318 : decode cL_law 318 = .ok (.iload 4, 2) := dq_21 by_4_48.1.2.2.2.1 by_4_48.1.2.2.2.2
theorem dL_law_320 : decode cL_law 320 = .ok (.iconst 5, 1) := dq_8 by_5_0.1.1.1.1.1
theorem dL_law_321 : decode cL_law 321 = .ok (.iadd, 1) := dq_96 by_5_0.1.1.1.1.2
theorem dL_law_322 : decode cL_law 322 = .ok (.iaload, 1) := dq_46 by_5_0.1.1.1.2.1
theorem dL_law_323 : decode cL_law 323 = .ok (.aload_n 3, 1) := dq_45 by_5_0.1.1.1.2.2
theorem dL_law_324 : decode cL_law 324 = .ok (.invokestatic 190, 3) := dq_184 by_5_0.1.1.2.1.1 by_5_0.1.1.2.1.2 by_5_0.1.1.2.2.1 rfl
theorem dL_law_327 : decode cL_law 327 = .ok (.istore 5, 2) := dq_54 by_5_0.1.1.2.2.2 by_5_0.1.2.1.1.1
theorem dL_law_329 : decode cL_law 329 = .ok (.aload_n 2, 1) := dq_44 by_5_0.1.2.1.1.2
theorem dL_law_330 : decode cL_law 330 = .ok (.aload_n 0, 1) := dq_42 by_5_0.1.2.1.2.1
theorem dL_law_331 : decode cL_law 331 = .ok (.iload 4, 2) := dq_21 by_5_0.1.2.1.2.2 by_5_0.1.2.2.1.1
theorem dL_law_333 : decode cL_law 333 = .ok (.iconst 1, 1) := dq_4 by_5_0.1.2.2.1.2
theorem dL_law_334 : decode cL_law 334 = .ok (.iadd, 1) := dq_96 by_5_0.1.2.2.2.1
theorem dL_law_335 : decode cL_law 335 = .ok (.iaload, 1) := dq_46 by_5_0.1.2.2.2.2
theorem dL_law_336 : decode cL_law 336 = .ok (.aload_n 0, 1) := dq_42 by_5_16.1.1.1.1.1
theorem dL_law_337 : decode cL_law 337 = .ok (.iload 4, 2) := dq_21 by_5_16.1.1.1.1.2 by_5_16.1.1.1.2.1
theorem dL_law_339 : decode cL_law 339 = .ok (.iconst 2, 1) := dq_5 by_5_16.1.1.1.2.2
theorem dL_law_340 : decode cL_law 340 = .ok (.iadd, 1) := dq_96 by_5_16.1.1.2.1.1
theorem dL_law_341 : decode cL_law 341 = .ok (.iaload, 1) := dq_46 by_5_16.1.1.2.1.2
theorem dL_law_342 : decode cL_law 342 = .ok (.aload_n 0, 1) := dq_42 by_5_16.1.1.2.2.1
theorem dL_law_343 : decode cL_law 343 = .ok (.iload 4, 2) := dq_21 by_5_16.1.1.2.2.2 by_5_16.1.2.1.1.1
theorem dL_law_345 : decode cL_law 345 = .ok (.iconst 3, 1) := dq_6 by_5_16.1.2.1.1.2
theorem dL_law_346 : decode cL_law 346 = .ok (.iadd, 1) := dq_96 by_5_16.1.2.1.2.1
theorem dL_law_347 : decode cL_law 347 = .ok (.iaload, 1) := dq_46 by_5_16.1.2.1.2.2
theorem dL_law_348 : decode cL_law 348 = .ok (.aload_n 0, 1) := dq_42 by_5_16.1.2.2.1.1
theorem dL_law_349 : decode cL_law 349 = .ok (.iload 4, 2) := dq_21 by_5_16.1.2.2.1.2 by_5_16.1.2.2.2.1
theorem dL_law_351 : decode cL_law 351 = .ok (.iconst 4, 1) := dq_7 by_5_16.1.2.2.2.2
theorem dL_law_352 : decode cL_law 352 = .ok (.iadd, 1) := dq_96 by_5_32.1.1.1.1.1
theorem dL_law_353 : decode cL_law 353 = .ok (.iaload, 1) := dq_46 by_5_32.1.1.1.1.2
theorem dL_law_354 : decode cL_law 354 = .ok (.aload_n 0, 1) := dq_42 by_5_32.1.1.1.2.1
theorem dL_law_355 : decode cL_law 355 = .ok (.iload 4, 2) := dq_21 by_5_32.1.1.1.2.2 by_5_32.1.1.2.1.1
theorem dL_law_357 : decode cL_law 357 = .ok (.iconst 5, 1) := dq_8 by_5_32.1.1.2.1.2
theorem dL_law_358 : decode cL_law 358 = .ok (.iadd, 1) := dq_96 by_5_32.1.1.2.2.1
theorem dL_law_359 : decode cL_law 359 = .ok (.iaload, 1) := dq_46 by_5_32.1.1.2.2.2
theorem dL_law_360 : decode cL_law 360 = .ok (.invokevirtual 195, 3) := dq_182 by_5_32.1.2.1.1.1 by_5_32.1.2.1.1.2 by_5_32.1.2.1.2.1 rfl
theorem dL_law_363 : decode cL_law 363 = .ok (.istore 6, 2) := dq_54 by_5_32.1.2.1.2.2 by_5_32.1.2.2.1.1
theorem dL_law_365 : decode cL_law 365 = .ok (.goto 2100, 3) := dq_167 by_5_32.1.2.2.1.2 by_5_32.1.2.2.2.1 by_5_32.1.2.2.2.2 (by decide)
theorem dL_law_368 : decode cL_law 368 = .ok (.aload_n 1, 1) := dq_43 by_5_48.1.1.1.1.1
theorem dL_law_369 : decode cL_law 369 = .ok (.aload_n 0, 1) := dq_42 by_5_48.1.1.1.1.2
theorem dL_law_370 : decode cL_law 370 = .ok (.iload 4, 2) := dq_21 by_5_48.1.1.1.2.1 by_5_48.1.1.1.2.2
theorem dL_law_372 : decode cL_law 372 = .ok (.iconst 1, 1) := dq_4 by_5_48.1.1.2.1.1
theorem dL_law_373 : decode cL_law 373 = .ok (.iadd, 1) := dq_96 by_5_48.1.1.2.1.2
theorem dL_law_374 : decode cL_law 374 = .ok (.iaload, 1) := dq_46 by_5_48.1.1.2.2.1
theorem dL_law_375 : decode cL_law 375 = .ok (.aload_n 0, 1) := dq_42 by_5_48.1.1.2.2.2
theorem dL_law_376 : decode cL_law 376 = .ok (.iload 4, 2) := dq_21 by_5_48.1.2.1.1.1 by_5_48.1.2.1.1.2
theorem dL_law_378 : decode cL_law 378 = .ok (.iconst 2, 1) := dq_5 by_5_48.1.2.1.2.1
theorem dL_law_379 : decode cL_law 379 = .ok (.iadd, 1) := dq_96 by_5_48.1.2.1.2.2
theorem dL_law_380 : decode cL_law 380 = .ok (.iaload, 1) := dq_46 by_5_48.1.2.2.1.1
theorem dL_law_381 : decode cL_law 381 = .ok (.aload_n 3, 1) := dq_45 by_5_48.1.2.2.1.2
theorem dL_law_382 : decode cL_law 382 = .ok (.invokestatic 196, 3) := dq_184 by_5_48.1.2.2.2.1 by_5_48.1.2.2.2.2 by_6_0.1.1.1.1.1 rfl
theorem dL_law_385 : decode cL_law 385 = .ok (.istore 5, 2) := dq_54 by_6_0.1.1.1.1.2 by_6_0.1.1.1.2.1
theorem dL_law_387 : decode cL_law 387 = .ok (.aload_n 2, 1) := dq_44 by_6_0.1.1.1.2.2
theorem dL_law_388 : decode cL_law 388 = .ok (.aload_n 0, 1) := dq_42 by_6_0.1.1.2.1.1
theorem dL_law_389 : decode cL_law 389 = .ok (.iload 4, 2) := dq_21 by_6_0.1.1.2.1.2 by_6_0.1.1.2.2.1
theorem dL_law_391 : decode cL_law 391 = .ok (.iconst 1, 1) := dq_4 by_6_0.1.1.2.2.2
theorem dL_law_392 : decode cL_law 392 = .ok (.iadd, 1) := dq_96 by_6_0.1.2.1.1.1
theorem dL_law_393 : decode cL_law 393 = .ok (.iaload, 1) := dq_46 by_6_0.1.2.1.1.2
theorem dL_law_394 : decode cL_law 394 = .ok (.aload_n 0, 1) := dq_42 by_6_0.1.2.1.2.1
theorem dL_law_395 : decode cL_law 395 = .ok (.iload 4, 2) := dq_21 by_6_0.1.2.1.2.2 by_6_0.1.2.2.1.1
theorem dL_law_397 : decode cL_law 397 = .ok (.iconst 2, 1) := dq_5 by_6_0.1.2.2.1.2
theorem dL_law_398 : decode cL_law 398 = .ok (.iadd, 1) := dq_96 by_6_0.1.2.2.2.1
theorem dL_law_399 : decode cL_law 399 = .ok (.iaload, 1) := dq_46 by_6_0.1.2.2.2.2
theorem dL_law_400 : decode cL_law 400 = .ok (.invokevirtual 199, 3) := dq_182 by_6_16.1.1.1.1.1 by_6_16.1.1.1.1.2 by_6_16.1.1.1.2.1 rfl
theorem dL_law_403 : decode cL_law 403 = .ok (.istore 6, 2) := dq_54 by_6_16.1.1.1.2.2 by_6_16.1.1.2.1.1
theorem dL_law_405 : decode cL_law 405 = .ok (.goto 2060, 3) := dq_167 by_6_16.1.1.2.1.2 by_6_16.1.1.2.2.1 by_6_16.1.1.2.2.2 (by decide)
theorem dL_law_408 : decode cL_law 408 = .ok (.aload_n 1, 1) := dq_43 by_6_16.1.2.1.1.1
theorem dL_law_409 : decode cL_law 409 = .ok (.aload_n 0, 1) := dq_42 by_6_16.1.2.1.1.2
theorem dL_law_410 : decode cL_law 410 = .ok (.iload 4, 2) := dq_21 by_6_16.1.2.1.2.1 by_6_16.1.2.1.2.2
theorem dL_law_412 : decode cL_law 412 = .ok (.iconst 1, 1) := dq_4 by_6_16.1.2.2.1.1
theorem dL_law_413 : decode cL_law 413 = .ok (.iadd, 1) := dq_96 by_6_16.1.2.2.1.2
theorem dL_law_414 : decode cL_law 414 = .ok (.iaload, 1) := dq_46 by_6_16.1.2.2.2.1
theorem dL_law_415 : decode cL_law 415 = .ok (.aload_n 0, 1) := dq_42 by_6_16.1.2.2.2.2
theorem dL_law_416 : decode cL_law 416 = .ok (.iload 4, 2) := dq_21 by_6_32.1.1.1.1.1 by_6_32.1.1.1.1.2
theorem dL_law_418 : decode cL_law 418 = .ok (.iconst 2, 1) := dq_5 by_6_32.1.1.1.2.1
theorem dL_law_419 : decode cL_law 419 = .ok (.iadd, 1) := dq_96 by_6_32.1.1.1.2.2
theorem dL_law_420 : decode cL_law 420 = .ok (.iaload, 1) := dq_46 by_6_32.1.1.2.1.1
theorem dL_law_421 : decode cL_law 421 = .ok (.aload_n 3, 1) := dq_45 by_6_32.1.1.2.1.2
theorem dL_law_422 : decode cL_law 422 = .ok (.invokestatic 200, 3) := dq_184 by_6_32.1.1.2.2.1 by_6_32.1.1.2.2.2 by_6_32.1.2.1.1.1 rfl
theorem dL_law_425 : decode cL_law 425 = .ok (.istore 5, 2) := dq_54 by_6_32.1.2.1.1.2 by_6_32.1.2.1.2.1
theorem dL_law_427 : decode cL_law 427 = .ok (.aload_n 2, 1) := dq_44 by_6_32.1.2.1.2.2
theorem dL_law_428 : decode cL_law 428 = .ok (.aload_n 0, 1) := dq_42 by_6_32.1.2.2.1.1
theorem dL_law_429 : decode cL_law 429 = .ok (.iload 4, 2) := dq_21 by_6_32.1.2.2.1.2 by_6_32.1.2.2.2.1
theorem dL_law_431 : decode cL_law 431 = .ok (.iconst 1, 1) := dq_4 by_6_32.1.2.2.2.2
theorem dL_law_432 : decode cL_law 432 = .ok (.iadd, 1) := dq_96 by_6_48.1.1.1.1.1
theorem dL_law_433 : decode cL_law 433 = .ok (.iaload, 1) := dq_46 by_6_48.1.1.1.1.2
theorem dL_law_434 : decode cL_law 434 = .ok (.aload_n 0, 1) := dq_42 by_6_48.1.1.1.2.1
theorem dL_law_435 : decode cL_law 435 = .ok (.iload 4, 2) := dq_21 by_6_48.1.1.1.2.2 by_6_48.1.1.2.1.1
theorem dL_law_437 : decode cL_law 437 = .ok (.iconst 2, 1) := dq_5 by_6_48.1.1.2.1.2
theorem dL_law_438 : decode cL_law 438 = .ok (.iadd, 1) := dq_96 by_6_48.1.1.2.2.1
theorem dL_law_439 : decode cL_law 439 = .ok (.iaload, 1) := dq_46 by_6_48.1.1.2.2.2
theorem dL_law_440 : decode cL_law 440 = .ok (.invokevirtual 202, 3) := dq_182 by_6_48.1.2.1.1.1 by_6_48.1.2.1.1.2 by_6_48.1.2.1.2.1 rfl
theorem dL_law_443 : decode cL_law 443 = .ok (.istore 6, 2) := dq_54 by_6_48.1.2.1.2.2 by_6_48.1.2.2.1.1
theorem dL_law_445 : decode cL_law 445 = .ok (.goto 2020, 3) := dq_167 by_6_48.1.2.2.1.2 by_6_48.1.2.2.2.1 by_6_48.1.2.2.2.2 (by decide)
theorem dL_law_448 : decode cL_law 448 = .ok (.aload_n 1, 1) := dq_43 by_7_0.1.1.1.1.1
theorem dL_law_449 : decode cL_law 449 = .ok (.aload_n 0, 1) := dq_42 by_7_0.1.1.1.1.2
theorem dL_law_450 : decode cL_law 450 = .ok (.iload 4, 2) := dq_21 by_7_0.1.1.1.2.1 by_7_0.1.1.1.2.2
theorem dL_law_452 : decode cL_law 452 = .ok (.iconst 1, 1) := dq_4 by_7_0.1.1.2.1.1
theorem dL_law_453 : decode cL_law 453 = .ok (.iadd, 1) := dq_96 by_7_0.1.1.2.1.2
theorem dL_law_454 : decode cL_law 454 = .ok (.iaload, 1) := dq_46 by_7_0.1.1.2.2.1
theorem dL_law_455 : decode cL_law 455 = .ok (.aload_n 3, 1) := dq_45 by_7_0.1.1.2.2.2
theorem dL_law_456 : decode cL_law 456 = .ok (.invokestatic 203, 3) := dq_184 by_7_0.1.2.1.1.1 by_7_0.1.2.1.1.2 by_7_0.1.2.1.2.1 rfl
theorem dL_law_459 : decode cL_law 459 = .ok (.istore 5, 2) := dq_54 by_7_0.1.2.1.2.2 by_7_0.1.2.2.1.1
theorem dL_law_461 : decode cL_law 461 = .ok (.aload_n 2, 1) := dq_44 by_7_0.1.2.2.1.2
theorem dL_law_462 : decode cL_law 462 = .ok (.aload_n 0, 1) := dq_42 by_7_0.1.2.2.2.1
theorem dL_law_463 : decode cL_law 463 = .ok (.iload 4, 2) := dq_21 by_7_0.1.2.2.2.2 by_7_16.1.1.1.1.1
theorem dL_law_465 : decode cL_law 465 = .ok (.iconst 1, 1) := dq_4 by_7_16.1.1.1.1.2
theorem dL_law_466 : decode cL_law 466 = .ok (.iadd, 1) := dq_96 by_7_16.1.1.1.2.1
theorem dL_law_467 : decode cL_law 467 = .ok (.iaload, 1) := dq_46 by_7_16.1.1.1.2.2
theorem dL_law_468 : decode cL_law 468 = .ok (.invokevirtual 206, 3) := dq_182 by_7_16.1.1.2.1.1 by_7_16.1.1.2.1.2 by_7_16.1.1.2.2.1 rfl
theorem dL_law_471 : decode cL_law 471 = .ok (.istore 6, 2) := dq_54 by_7_16.1.1.2.2.2 by_7_16.1.2.1.1.1
theorem dL_law_473 : decode cL_law 473 = .ok (.aload_n 2, 1) := dq_44 by_7_16.1.2.1.1.2
theorem dL_law_474 : decode cL_law 474 = .ok (.invokevirtual 207, 3) := dq_182 by_7_16.1.2.1.2.1 by_7_16.1.2.1.2.2 by_7_16.1.2.2.1.1 rfl
theorem dL_law_477 : decode cL_law 477 = .ok (.iload 5, 2) := dq_21 by_7_16.1.2.2.1.2 by_7_16.1.2.2.2.1
theorem dL_law_479 : decode cL_law 479 = .ok (.if_icmp .eq 5, 3) := dq_159 by_7_16.1.2.2.2.2 by_7_32.1.1.1.1.1 by_7_32.1.1.1.1.2 (by decide)
theorem dL_law_484 : decode cL_law 484 = .ok (.iload 5, 2) := dq_21 by_7_32.1.1.2.1.1 by_7_32.1.1.2.1.2
theorem dL_law_486 : decode cL_law 486 = .ok (.ifCond .ne 16, 3) := dq_154 by_7_32.1.1.2.2.1 by_7_32.1.1.2.2.2 by_7_32.1.2.1.1.1 (by decide)
theorem dL_law_489 : decode cL_law 489 = .ok (.aload_n 3, 1) := dq_45 by_7_32.1.2.1.1.2
theorem dL_law_490 : decode cL_law 490 = .ok (.getfield 13, 3) := dq_180 by_7_32.1.2.1.2.1 by_7_32.1.2.1.2.2 by_7_32.1.2.2.1.1 rfl
theorem dL_law_493 : decode cL_law 493 = .ok (.iload 6, 2) := dq_21 by_7_32.1.2.2.1.2 by_7_32.1.2.2.2.1
theorem dL_law_495 : decode cL_law 495 = .ok (.i2l, 1) := dq_133 by_7_32.1.2.2.2.2
theorem dL_law_496 : decode cL_law 496 = .ok (.lcmp, 1) := dq_148 by_7_48.1.1.1.1.1
theorem dL_law_497 : decode cL_law 497 = .ok (.ifCond .eq 5, 3) := dq_153 by_7_48.1.1.1.1.2 by_7_48.1.1.1.2.1 by_7_48.1.1.1.2.2 (by decide)
theorem dL_law_502 : decode cL_law 502 = .ok (.goto 1963, 3) := dq_167 by_7_48.1.1.2.2.1 by_7_48.1.1.2.2.2 by_7_48.1.2.1.1.1 (by decide)
theorem dL_law_505 : decode cL_law 505 = .ok (.aload_n 1, 1) := dq_43 by_7_48.1.2.1.1.2
theorem dL_law_506 : decode cL_law 506 = .ok (.aload_n 0, 1) := dq_42 by_7_48.1.2.1.2.1
theorem dL_law_507 : decode cL_law 507 = .ok (.iload 4, 2) := dq_21 by_7_48.1.2.1.2.2 by_7_48.1.2.2.1.1
theorem dL_law_509 : decode cL_law 509 = .ok (.iconst 1, 1) := dq_4 by_7_48.1.2.2.1.2
theorem dL_law_510 : decode cL_law 510 = .ok (.iadd, 1) := dq_96 by_7_48.1.2.2.2.1
theorem dL_law_511 : decode cL_law 511 = .ok (.iaload, 1) := dq_46 by_7_48.1.2.2.2.2
theorem dL_law_512 : decode cL_law 512 = .ok (.aload_n 3, 1) := dq_45 by_8_0.1.1.1.1.1
theorem dL_law_513 : decode cL_law 513 = .ok (.invokestatic 210, 3) := dq_184 by_8_0.1.1.1.1.2 by_8_0.1.1.1.2.1 by_8_0.1.1.1.2.2 rfl
theorem dL_law_516 : decode cL_law 516 = .ok (.istore 5, 2) := dq_54 by_8_0.1.1.2.1.1 by_8_0.1.1.2.1.2
theorem dL_law_518 : decode cL_law 518 = .ok (.aload_n 2, 1) := dq_44 by_8_0.1.1.2.2.1
theorem dL_law_519 : decode cL_law 519 = .ok (.aload_n 0, 1) := dq_42 by_8_0.1.1.2.2.2
theorem dL_law_520 : decode cL_law 520 = .ok (.iload 4, 2) := dq_21 by_8_0.1.2.1.1.1 by_8_0.1.2.1.1.2
theorem dL_law_522 : decode cL_law 522 = .ok (.iconst 1, 1) := dq_4 by_8_0.1.2.1.2.1
theorem dL_law_523 : decode cL_law 523 = .ok (.iadd, 1) := dq_96 by_8_0.1.2.1.2.2
theorem dL_law_524 : decode cL_law 524 = .ok (.iaload, 1) := dq_46 by_8_0.1.2.2.1.1
theorem dL_law_525 : decode cL_law 525 = .ok (.invokevirtual 212, 3) := dq_182 by_8_0.1.2.2.1.2 by_8_0.1.2.2.2.1 by_8_0.1.2.2.2.2 rfl
theorem dL_law_528 : decode cL_law 528 = .ok (.istore 6, 2) := dq_54 by_8_16.1.1.1.1.1 by_8_16.1.1.1.1.2
theorem dL_law_530 : decode cL_law 530 = .ok (.goto 1935, 3) := dq_167 by_8_16.1.1.1.2.1 by_8_16.1.1.1.2.2 by_8_16.1.1.2.1.1 (by decide)
theorem dL_law_533 : decode cL_law 533 = .ok (.aload_n 1, 1) := dq_43 by_8_16.1.1.2.1.2
theorem dL_law_534 : decode cL_law 534 = .ok (.aload_n 0, 1) := dq_42 by_8_16.1.1.2.2.1
theorem dL_law_535 : decode cL_law 535 = .ok (.iload 4, 2) := dq_21 by_8_16.1.1.2.2.2 by_8_16.1.2.1.1.1
theorem dL_law_537 : decode cL_law 537 = .ok (.iconst 1, 1) := dq_4 by_8_16.1.2.1.1.2
theorem dL_law_538 : decode cL_law 538 = .ok (.iadd, 1) := dq_96 by_8_16.1.2.1.2.1
theorem dL_law_539 : decode cL_law 539 = .ok (.iaload, 1) := dq_46 by_8_16.1.2.1.2.2
theorem dL_law_540 : decode cL_law 540 = .ok (.aload_n 0, 1) := dq_42 by_8_16.1.2.2.1.1
theorem dL_law_541 : decode cL_law 541 = .ok (.iload 4, 2) := dq_21 by_8_16.1.2.2.1.2 by_8_16.1.2.2.2.1
theorem dL_law_543 : decode cL_law 543 = .ok (.iconst 2, 1) := dq_5 by_8_16.1.2.2.2.2
theorem dL_law_544 : decode cL_law 544 = .ok (.iadd, 1) := dq_96 by_8_32.1.1.1.1.1
theorem dL_law_545 : decode cL_law 545 = .ok (.iaload, 1) := dq_46 by_8_32.1.1.1.1.2
theorem dL_law_546 : decode cL_law 546 = .ok (.aload_n 0, 1) := dq_42 by_8_32.1.1.1.2.1
theorem dL_law_547 : decode cL_law 547 = .ok (.iload 4, 2) := dq_21 by_8_32.1.1.1.2.2 by_8_32.1.1.2.1.1
theorem dL_law_549 : decode cL_law 549 = .ok (.iconst 3, 1) := dq_6 by_8_32.1.1.2.1.2
theorem dL_law_550 : decode cL_law 550 = .ok (.iadd, 1) := dq_96 by_8_32.1.1.2.2.1
theorem dL_law_551 : decode cL_law 551 = .ok (.iaload, 1) := dq_46 by_8_32.1.1.2.2.2
theorem dL_law_552 : decode cL_law 552 = .ok (.ifCond .eq 7, 3) := dq_153 by_8_32.1.2.1.1.1 by_8_32.1.2.1.1.2 by_8_32.1.2.1.2.1 (by decide)
theorem dL_law_555 : decode cL_law 555 = .ok (.iconst 1, 1) := dq_4 by_8_32.1.2.1.2.2
theorem dL_law_556 : decode cL_law 556 = .ok (.goto 4, 3) := dq_167 by_8_32.1.2.2.1.1 by_8_32.1.2.2.1.2 by_8_32.1.2.2.2.1 (by decide)
theorem dL_law_559 : decode cL_law 559 = .ok (.iconst 0, 1) := dq_3 by_8_32.1.2.2.2.2
theorem dL_law_560 : decode cL_law 560 = .ok (.aload_n 3, 1) := dq_45 by_8_48.1.1.1.1.1
theorem dL_law_561 : decode cL_law 561 = .ok (.invokestatic 213, 3) := dq_184 by_8_48.1.1.1.1.2 by_8_48.1.1.1.2.1 by_8_48.1.1.1.2.2 rfl
theorem dL_law_564 : decode cL_law 564 = .ok (.istore 5, 2) := dq_54 by_8_48.1.1.2.1.1 by_8_48.1.1.2.1.2
theorem dL_law_566 : decode cL_law 566 = .ok (.aload_n 2, 1) := dq_44 by_8_48.1.1.2.2.1
theorem dL_law_567 : decode cL_law 567 = .ok (.aload_n 0, 1) := dq_42 by_8_48.1.1.2.2.2
theorem dL_law_568 : decode cL_law 568 = .ok (.iload 4, 2) := dq_21 by_8_48.1.2.1.1.1 by_8_48.1.2.1.1.2
theorem dL_law_570 : decode cL_law 570 = .ok (.iconst 1, 1) := dq_4 by_8_48.1.2.1.2.1
theorem dL_law_571 : decode cL_law 571 = .ok (.iadd, 1) := dq_96 by_8_48.1.2.1.2.2
theorem dL_law_572 : decode cL_law 572 = .ok (.iaload, 1) := dq_46 by_8_48.1.2.2.1.1
theorem dL_law_573 : decode cL_law 573 = .ok (.aload_n 0, 1) := dq_42 by_8_48.1.2.2.1.2
theorem dL_law_574 : decode cL_law 574 = .ok (.iload 4, 2) := dq_21 by_8_48.1.2.2.2.1 by_8_48.1.2.2.2.2
theorem dL_law_576 : decode cL_law 576 = .ok (.iconst 2, 1) := dq_5 by_9_0.1.1.1.1.1
theorem dL_law_577 : decode cL_law 577 = .ok (.iadd, 1) := dq_96 by_9_0.1.1.1.1.2
theorem dL_law_578 : decode cL_law 578 = .ok (.iaload, 1) := dq_46 by_9_0.1.1.1.2.1
theorem dL_law_579 : decode cL_law 579 = .ok (.aload_n 0, 1) := dq_42 by_9_0.1.1.1.2.2
theorem dL_law_580 : decode cL_law 580 = .ok (.iload 4, 2) := dq_21 by_9_0.1.1.2.1.1 by_9_0.1.1.2.1.2
theorem dL_law_582 : decode cL_law 582 = .ok (.iconst 3, 1) := dq_6 by_9_0.1.1.2.2.1
theorem dL_law_583 : decode cL_law 583 = .ok (.iadd, 1) := dq_96 by_9_0.1.1.2.2.2
theorem dL_law_584 : decode cL_law 584 = .ok (.iaload, 1) := dq_46 by_9_0.1.2.1.1.1
theorem dL_law_585 : decode cL_law 585 = .ok (.ifCond .eq 7, 3) := dq_153 by_9_0.1.2.1.1.2 by_9_0.1.2.1.2.1 by_9_0.1.2.1.2.2 (by decide)
theorem dL_law_588 : decode cL_law 588 = .ok (.iconst 1, 1) := dq_4 by_9_0.1.2.2.1.1
theorem dL_law_589 : decode cL_law 589 = .ok (.goto 4, 3) := dq_167 by_9_0.1.2.2.1.2 by_9_0.1.2.2.2.1 by_9_0.1.2.2.2.2 (by decide)
theorem dL_law_592 : decode cL_law 592 = .ok (.iconst 0, 1) := dq_3 by_9_16.1.1.1.1.1
theorem dL_law_593 : decode cL_law 593 = .ok (.invokevirtual 216, 3) := dq_182 by_9_16.1.1.1.1.2 by_9_16.1.1.1.2.1 by_9_16.1.1.1.2.2 rfl
theorem dL_law_596 : decode cL_law 596 = .ok (.istore 6, 2) := dq_54 by_9_16.1.1.2.1.1 by_9_16.1.1.2.1.2
theorem dL_law_598 : decode cL_law 598 = .ok (.goto 1867, 3) := dq_167 by_9_16.1.1.2.2.1 by_9_16.1.1.2.2.2 by_9_16.1.2.1.1.1 (by decide)
theorem dL_law_601 : decode cL_law 601 = .ok (.aload_n 1, 1) := dq_43 by_9_16.1.2.1.1.2
theorem dL_law_602 : decode cL_law 602 = .ok (.aload_n 0, 1) := dq_42 by_9_16.1.2.1.2.1
theorem dL_law_603 : decode cL_law 603 = .ok (.iload 4, 2) := dq_21 by_9_16.1.2.1.2.2 by_9_16.1.2.2.1.1
theorem dL_law_605 : decode cL_law 605 = .ok (.iconst 1, 1) := dq_4 by_9_16.1.2.2.1.2
theorem dL_law_606 : decode cL_law 606 = .ok (.iadd, 1) := dq_96 by_9_16.1.2.2.2.1
theorem dL_law_607 : decode cL_law 607 = .ok (.iaload, 1) := dq_46 by_9_16.1.2.2.2.2
theorem dL_law_608 : decode cL_law 608 = .ok (.aload_n 3, 1) := dq_45 by_9_32.1.1.1.1.1
theorem dL_law_609 : decode cL_law 609 = .ok (.invokestatic 217, 3) := dq_184 by_9_32.1.1.1.1.2 by_9_32.1.1.1.2.1 by_9_32.1.1.1.2.2 rfl
theorem dL_law_612 : decode cL_law 612 = .ok (.istore 5, 2) := dq_54 by_9_32.1.1.2.1.1 by_9_32.1.1.2.1.2
theorem dL_law_614 : decode cL_law 614 = .ok (.aload_n 2, 1) := dq_44 by_9_32.1.1.2.2.1
theorem dL_law_615 : decode cL_law 615 = .ok (.aload_n 0, 1) := dq_42 by_9_32.1.1.2.2.2
theorem dL_law_616 : decode cL_law 616 = .ok (.iload 4, 2) := dq_21 by_9_32.1.2.1.1.1 by_9_32.1.2.1.1.2
theorem dL_law_618 : decode cL_law 618 = .ok (.iconst 1, 1) := dq_4 by_9_32.1.2.1.2.1
theorem dL_law_619 : decode cL_law 619 = .ok (.iadd, 1) := dq_96 by_9_32.1.2.1.2.2
theorem dL_law_620 : decode cL_law 620 = .ok (.iaload, 1) := dq_46 by_9_32.1.2.2.1.1
theorem dL_law_621 : decode cL_law 621 = .ok (.invokevirtual 219, 3) := dq_182 by_9_32.1.2.2.1.2 by_9_32.1.2.2.2.1 by_9_32.1.2.2.2.2 rfl
theorem dL_law_624 : decode cL_law 624 = .ok (.istore 6, 2) := dq_54 by_9_48.1.1.1.1.1 by_9_48.1.1.1.1.2
theorem dL_law_626 : decode cL_law 626 = .ok (.goto 1839, 3) := dq_167 by_9_48.1.1.1.2.1 by_9_48.1.1.1.2.2 by_9_48.1.1.2.1.1 (by decide)
theorem dL_law_629 : decode cL_law 629 = .ok (.aload_n 1, 1) := dq_43 by_9_48.1.1.2.1.2
theorem dL_law_630 : decode cL_law 630 = .ok (.aload_n 0, 1) := dq_42 by_9_48.1.1.2.2.1
theorem dL_law_631 : decode cL_law 631 = .ok (.iload 4, 2) := dq_21 by_9_48.1.1.2.2.2 by_9_48.1.2.1.1.1
theorem dL_law_633 : decode cL_law 633 = .ok (.iconst 1, 1) := dq_4 by_9_48.1.2.1.1.2
theorem dL_law_634 : decode cL_law 634 = .ok (.iadd, 1) := dq_96 by_9_48.1.2.1.2.1
theorem dL_law_635 : decode cL_law 635 = .ok (.iaload, 1) := dq_46 by_9_48.1.2.1.2.2
theorem dL_law_636 : decode cL_law 636 = .ok (.aload_n 3, 1) := dq_45 by_9_48.1.2.2.1.1
theorem dL_law_637 : decode cL_law 637 = .ok (.invokestatic 220, 3) := dq_184 by_9_48.1.2.2.1.2 by_9_48.1.2.2.2.1 by_9_48.1.2.2.2.2 rfl
theorem dL_law_640 : decode cL_law 640 = .ok (.istore 5, 2) := dq_54 by_10_0.1.1.1.1.1 by_10_0.1.1.1.1.2
theorem dL_law_642 : decode cL_law 642 = .ok (.aload_n 2, 1) := dq_44 by_10_0.1.1.1.2.1
theorem dL_law_643 : decode cL_law 643 = .ok (.aload_n 0, 1) := dq_42 by_10_0.1.1.1.2.2
theorem dL_law_644 : decode cL_law 644 = .ok (.iload 4, 2) := dq_21 by_10_0.1.1.2.1.1 by_10_0.1.1.2.1.2
theorem dL_law_646 : decode cL_law 646 = .ok (.iconst 1, 1) := dq_4 by_10_0.1.1.2.2.1
theorem dL_law_647 : decode cL_law 647 = .ok (.iadd, 1) := dq_96 by_10_0.1.1.2.2.2
theorem dL_law_648 : decode cL_law 648 = .ok (.iaload, 1) := dq_46 by_10_0.1.2.1.1.1
theorem dL_law_649 : decode cL_law 649 = .ok (.invokevirtual 222, 3) := dq_182 by_10_0.1.2.1.1.2 by_10_0.1.2.1.2.1 by_10_0.1.2.1.2.2 rfl
theorem dL_law_652 : decode cL_law 652 = .ok (.istore 6, 2) := dq_54 by_10_0.1.2.2.1.1 by_10_0.1.2.2.1.2
theorem dL_law_654 : decode cL_law 654 = .ok (.goto 1811, 3) := dq_167 by_10_0.1.2.2.2.1 by_10_0.1.2.2.2.2 by_10_16.1.1.1.1.1 (by decide)
theorem dL_law_657 : decode cL_law 657 = .ok (.aload_n 1, 1) := dq_43 by_10_16.1.1.1.1.2
theorem dL_law_658 : decode cL_law 658 = .ok (.aload_n 0, 1) := dq_42 by_10_16.1.1.1.2.1
theorem dL_law_659 : decode cL_law 659 = .ok (.iload 4, 2) := dq_21 by_10_16.1.1.1.2.2 by_10_16.1.1.2.1.1
theorem dL_law_661 : decode cL_law 661 = .ok (.iconst 1, 1) := dq_4 by_10_16.1.1.2.1.2
theorem dL_law_662 : decode cL_law 662 = .ok (.iadd, 1) := dq_96 by_10_16.1.1.2.2.1
theorem dL_law_663 : decode cL_law 663 = .ok (.iaload, 1) := dq_46 by_10_16.1.1.2.2.2
theorem dL_law_664 : decode cL_law 664 = .ok (.aload_n 0, 1) := dq_42 by_10_16.1.2.1.1.1
theorem dL_law_665 : decode cL_law 665 = .ok (.iload 4, 2) := dq_21 by_10_16.1.2.1.1.2 by_10_16.1.2.1.2.1
theorem dL_law_667 : decode cL_law 667 = .ok (.iconst 2, 1) := dq_5 by_10_16.1.2.1.2.2
theorem dL_law_668 : decode cL_law 668 = .ok (.iadd, 1) := dq_96 by_10_16.1.2.2.1.1
theorem dL_law_669 : decode cL_law 669 = .ok (.iaload, 1) := dq_46 by_10_16.1.2.2.1.2
theorem dL_law_670 : decode cL_law 670 = .ok (.aload_n 0, 1) := dq_42 by_10_16.1.2.2.2.1
theorem dL_law_671 : decode cL_law 671 = .ok (.iload 4, 2) := dq_21 by_10_16.1.2.2.2.2 by_10_32.1.1.1.1.1
theorem dL_law_673 : decode cL_law 673 = .ok (.iconst 3, 1) := dq_6 by_10_32.1.1.1.1.2
theorem dL_law_674 : decode cL_law 674 = .ok (.iadd, 1) := dq_96 by_10_32.1.1.1.2.1
theorem dL_law_675 : decode cL_law 675 = .ok (.iaload, 1) := dq_46 by_10_32.1.1.1.2.2
theorem dL_law_676 : decode cL_law 676 = .ok (.aload_n 3, 1) := dq_45 by_10_32.1.1.2.1.1
theorem dL_law_677 : decode cL_law 677 = .ok (.invokestatic 223, 3) := dq_184 by_10_32.1.1.2.1.2 by_10_32.1.1.2.2.1 by_10_32.1.1.2.2.2 rfl
theorem dL_law_680 : decode cL_law 680 = .ok (.istore 5, 2) := dq_54 by_10_32.1.2.1.1.1 by_10_32.1.2.1.1.2
theorem dL_law_682 : decode cL_law 682 = .ok (.aload_n 2, 1) := dq_44 by_10_32.1.2.1.2.1
theorem dL_law_683 : decode cL_law 683 = .ok (.aload_n 0, 1) := dq_42 by_10_32.1.2.1.2.2
theorem dL_law_684 : decode cL_law 684 = .ok (.iload 4, 2) := dq_21 by_10_32.1.2.2.1.1 by_10_32.1.2.2.1.2
theorem dL_law_686 : decode cL_law 686 = .ok (.iconst 1, 1) := dq_4 by_10_32.1.2.2.2.1
theorem dL_law_687 : decode cL_law 687 = .ok (.iadd, 1) := dq_96 by_10_32.1.2.2.2.2
theorem dL_law_688 : decode cL_law 688 = .ok (.iaload, 1) := dq_46 by_10_48.1.1.1.1.1
theorem dL_law_689 : decode cL_law 689 = .ok (.aload_n 0, 1) := dq_42 by_10_48.1.1.1.1.2
theorem dL_law_690 : decode cL_law 690 = .ok (.iload 4, 2) := dq_21 by_10_48.1.1.1.2.1 by_10_48.1.1.1.2.2
theorem dL_law_692 : decode cL_law 692 = .ok (.iconst 2, 1) := dq_5 by_10_48.1.1.2.1.1
theorem dL_law_693 : decode cL_law 693 = .ok (.iadd, 1) := dq_96 by_10_48.1.1.2.1.2
theorem dL_law_694 : decode cL_law 694 = .ok (.iaload, 1) := dq_46 by_10_48.1.1.2.2.1
theorem dL_law_695 : decode cL_law 695 = .ok (.aload_n 0, 1) := dq_42 by_10_48.1.1.2.2.2
theorem dL_law_696 : decode cL_law 696 = .ok (.iload 4, 2) := dq_21 by_10_48.1.2.1.1.1 by_10_48.1.2.1.1.2
theorem dL_law_698 : decode cL_law 698 = .ok (.iconst 3, 1) := dq_6 by_10_48.1.2.1.2.1
theorem dL_law_699 : decode cL_law 699 = .ok (.iadd, 1) := dq_96 by_10_48.1.2.1.2.2
theorem dL_law_700 : decode cL_law 700 = .ok (.iaload, 1) := dq_46 by_10_48.1.2.2.1.1
theorem dL_law_701 : decode cL_law 701 = .ok (.invokevirtual 226, 3) := dq_182 by_10_48.1.2.2.1.2 by_10_48.1.2.2.2.1 by_10_48.1.2.2.2.2 rfl
theorem dL_law_704 : decode cL_law 704 = .ok (.istore 6, 2) := dq_54 by_11_0.1.1.1.1.1 by_11_0.1.1.1.1.2
theorem dL_law_706 : decode cL_law 706 = .ok (.goto 1759, 3) := dq_167 by_11_0.1.1.1.2.1 by_11_0.1.1.1.2.2 by_11_0.1.1.2.1.1 (by decide)
theorem dL_law_709 : decode cL_law 709 = .ok (.aload_n 1, 1) := dq_43 by_11_0.1.1.2.1.2
theorem dL_law_710 : decode cL_law 710 = .ok (.aload_n 0, 1) := dq_42 by_11_0.1.1.2.2.1
theorem dL_law_711 : decode cL_law 711 = .ok (.iload 4, 2) := dq_21 by_11_0.1.1.2.2.2 by_11_0.1.2.1.1.1
theorem dL_law_713 : decode cL_law 713 = .ok (.iconst 1, 1) := dq_4 by_11_0.1.2.1.1.2
theorem dL_law_714 : decode cL_law 714 = .ok (.iadd, 1) := dq_96 by_11_0.1.2.1.2.1
theorem dL_law_715 : decode cL_law 715 = .ok (.iaload, 1) := dq_46 by_11_0.1.2.1.2.2
theorem dL_law_716 : decode cL_law 716 = .ok (.aload_n 0, 1) := dq_42 by_11_0.1.2.2.1.1
theorem dL_law_717 : decode cL_law 717 = .ok (.iload 4, 2) := dq_21 by_11_0.1.2.2.1.2 by_11_0.1.2.2.2.1
theorem dL_law_719 : decode cL_law 719 = .ok (.iconst 2, 1) := dq_5 by_11_0.1.2.2.2.2
theorem dL_law_720 : decode cL_law 720 = .ok (.iadd, 1) := dq_96 by_11_16.1.1.1.1.1
theorem dL_law_721 : decode cL_law 721 = .ok (.iaload, 1) := dq_46 by_11_16.1.1.1.1.2
theorem dL_law_722 : decode cL_law 722 = .ok (.aload_n 3, 1) := dq_45 by_11_16.1.1.1.2.1
theorem dL_law_723 : decode cL_law 723 = .ok (.invokestatic 227, 3) := dq_184 by_11_16.1.1.1.2.2 by_11_16.1.1.2.1.1 by_11_16.1.1.2.1.2 rfl
theorem dL_law_726 : decode cL_law 726 = .ok (.istore 5, 2) := dq_54 by_11_16.1.1.2.2.1 by_11_16.1.1.2.2.2
theorem dL_law_728 : decode cL_law 728 = .ok (.aload_n 2, 1) := dq_44 by_11_16.1.2.1.1.1
theorem dL_law_729 : decode cL_law 729 = .ok (.aload_n 0, 1) := dq_42 by_11_16.1.2.1.1.2
theorem dL_law_730 : decode cL_law 730 = .ok (.iload 4, 2) := dq_21 by_11_16.1.2.1.2.1 by_11_16.1.2.1.2.2
theorem dL_law_732 : decode cL_law 732 = .ok (.iconst 1, 1) := dq_4 by_11_16.1.2.2.1.1
theorem dL_law_733 : decode cL_law 733 = .ok (.iadd, 1) := dq_96 by_11_16.1.2.2.1.2
theorem dL_law_734 : decode cL_law 734 = .ok (.iaload, 1) := dq_46 by_11_16.1.2.2.2.1
theorem dL_law_735 : decode cL_law 735 = .ok (.aload_n 0, 1) := dq_42 by_11_16.1.2.2.2.2
theorem dL_law_736 : decode cL_law 736 = .ok (.iload 4, 2) := dq_21 by_11_32.1.1.1.1.1 by_11_32.1.1.1.1.2
theorem dL_law_738 : decode cL_law 738 = .ok (.iconst 2, 1) := dq_5 by_11_32.1.1.1.2.1
theorem dL_law_739 : decode cL_law 739 = .ok (.iadd, 1) := dq_96 by_11_32.1.1.1.2.2
theorem dL_law_740 : decode cL_law 740 = .ok (.iaload, 1) := dq_46 by_11_32.1.1.2.1.1
theorem dL_law_741 : decode cL_law 741 = .ok (.invokevirtual 229, 3) := dq_182 by_11_32.1.1.2.1.2 by_11_32.1.1.2.2.1 by_11_32.1.1.2.2.2 rfl
theorem dL_law_744 : decode cL_law 744 = .ok (.istore 6, 2) := dq_54 by_11_32.1.2.1.1.1 by_11_32.1.2.1.1.2
theorem dL_law_746 : decode cL_law 746 = .ok (.goto 1719, 3) := dq_167 by_11_32.1.2.1.2.1 by_11_32.1.2.1.2.2 by_11_32.1.2.2.1.1 (by decide)
theorem dL_law_749 : decode cL_law 749 = .ok (.aload_n 1, 1) := dq_43 by_11_32.1.2.2.1.2
theorem dL_law_750 : decode cL_law 750 = .ok (.aload_n 0, 1) := dq_42 by_11_32.1.2.2.2.1
theorem dL_law_751 : decode cL_law 751 = .ok (.iload 4, 2) := dq_21 by_11_32.1.2.2.2.2 by_11_48.1.1.1.1.1
theorem dL_law_753 : decode cL_law 753 = .ok (.iconst 1, 1) := dq_4 by_11_48.1.1.1.1.2
theorem dL_law_754 : decode cL_law 754 = .ok (.iadd, 1) := dq_96 by_11_48.1.1.1.2.1
theorem dL_law_755 : decode cL_law 755 = .ok (.iaload, 1) := dq_46 by_11_48.1.1.1.2.2
theorem dL_law_756 : decode cL_law 756 = .ok (.aload_n 0, 1) := dq_42 by_11_48.1.1.2.1.1
theorem dL_law_757 : decode cL_law 757 = .ok (.iload 4, 2) := dq_21 by_11_48.1.1.2.1.2 by_11_48.1.1.2.2.1
theorem dL_law_759 : decode cL_law 759 = .ok (.iconst 2, 1) := dq_5 by_11_48.1.1.2.2.2
theorem dL_law_760 : decode cL_law 760 = .ok (.iadd, 1) := dq_96 by_11_48.1.2.1.1.1
theorem dL_law_761 : decode cL_law 761 = .ok (.iaload, 1) := dq_46 by_11_48.1.2.1.1.2
theorem dL_law_762 : decode cL_law 762 = .ok (.aload_n 3, 1) := dq_45 by_11_48.1.2.1.2.1
theorem dL_law_763 : decode cL_law 763 = .ok (.invokestatic 230, 3) := dq_184 by_11_48.1.2.1.2.2 by_11_48.1.2.2.1.1 by_11_48.1.2.2.1.2 rfl
theorem dL_law_766 : decode cL_law 766 = .ok (.istore 5, 2) := dq_54 by_11_48.1.2.2.2.1 by_11_48.1.2.2.2.2
theorem dL_law_768 : decode cL_law 768 = .ok (.aload_n 2, 1) := dq_44 by_12_0.1.1.1.1.1
theorem dL_law_769 : decode cL_law 769 = .ok (.aload_n 0, 1) := dq_42 by_12_0.1.1.1.1.2
theorem dL_law_770 : decode cL_law 770 = .ok (.iload 4, 2) := dq_21 by_12_0.1.1.1.2.1 by_12_0.1.1.1.2.2
theorem dL_law_772 : decode cL_law 772 = .ok (.iconst 1, 1) := dq_4 by_12_0.1.1.2.1.1
theorem dL_law_773 : decode cL_law 773 = .ok (.iadd, 1) := dq_96 by_12_0.1.1.2.1.2
theorem dL_law_774 : decode cL_law 774 = .ok (.iaload, 1) := dq_46 by_12_0.1.1.2.2.1
theorem dL_law_775 : decode cL_law 775 = .ok (.aload_n 0, 1) := dq_42 by_12_0.1.1.2.2.2
theorem dL_law_776 : decode cL_law 776 = .ok (.iload 4, 2) := dq_21 by_12_0.1.2.1.1.1 by_12_0.1.2.1.1.2
theorem dL_law_778 : decode cL_law 778 = .ok (.iconst 2, 1) := dq_5 by_12_0.1.2.1.2.1
theorem dL_law_779 : decode cL_law 779 = .ok (.iadd, 1) := dq_96 by_12_0.1.2.1.2.2
theorem dL_law_780 : decode cL_law 780 = .ok (.iaload, 1) := dq_46 by_12_0.1.2.2.1.1
theorem dL_law_781 : decode cL_law 781 = .ok (.invokevirtual 232, 3) := dq_182 by_12_0.1.2.2.1.2 by_12_0.1.2.2.2.1 by_12_0.1.2.2.2.2 rfl
theorem dL_law_784 : decode cL_law 784 = .ok (.istore 6, 2) := dq_54 by_12_16.1.1.1.1.1 by_12_16.1.1.1.1.2
theorem dL_law_786 : decode cL_law 786 = .ok (.goto 1679, 3) := dq_167 by_12_16.1.1.1.2.1 by_12_16.1.1.1.2.2 by_12_16.1.1.2.1.1 (by decide)
theorem dL_law_789 : decode cL_law 789 = .ok (.aload_n 1, 1) := dq_43 by_12_16.1.1.2.1.2
theorem dL_law_790 : decode cL_law 790 = .ok (.aload_n 0, 1) := dq_42 by_12_16.1.1.2.2.1
theorem dL_law_791 : decode cL_law 791 = .ok (.iload 4, 2) := dq_21 by_12_16.1.1.2.2.2 by_12_16.1.2.1.1.1
theorem dL_law_793 : decode cL_law 793 = .ok (.iconst 1, 1) := dq_4 by_12_16.1.2.1.1.2
theorem dL_law_794 : decode cL_law 794 = .ok (.iadd, 1) := dq_96 by_12_16.1.2.1.2.1
theorem dL_law_795 : decode cL_law 795 = .ok (.iaload, 1) := dq_46 by_12_16.1.2.1.2.2
theorem dL_law_796 : decode cL_law 796 = .ok (.aload_n 0, 1) := dq_42 by_12_16.1.2.2.1.1
theorem dL_law_797 : decode cL_law 797 = .ok (.iload 4, 2) := dq_21 by_12_16.1.2.2.1.2 by_12_16.1.2.2.2.1
theorem dL_law_799 : decode cL_law 799 = .ok (.iconst 2, 1) := dq_5 by_12_16.1.2.2.2.2
theorem dL_law_800 : decode cL_law 800 = .ok (.iadd, 1) := dq_96 by_12_32.1.1.1.1.1
theorem dL_law_801 : decode cL_law 801 = .ok (.iaload, 1) := dq_46 by_12_32.1.1.1.1.2
theorem dL_law_802 : decode cL_law 802 = .ok (.aload_n 3, 1) := dq_45 by_12_32.1.1.1.2.1
theorem dL_law_803 : decode cL_law 803 = .ok (.invokestatic 233, 3) := dq_184 by_12_32.1.1.1.2.2 by_12_32.1.1.2.1.1 by_12_32.1.1.2.1.2 rfl
theorem dL_law_806 : decode cL_law 806 = .ok (.istore 5, 2) := dq_54 by_12_32.1.1.2.2.1 by_12_32.1.1.2.2.2
theorem dL_law_808 : decode cL_law 808 = .ok (.aload_n 2, 1) := dq_44 by_12_32.1.2.1.1.1
theorem dL_law_809 : decode cL_law 809 = .ok (.aload_n 0, 1) := dq_42 by_12_32.1.2.1.1.2
theorem dL_law_810 : decode cL_law 810 = .ok (.iload 4, 2) := dq_21 by_12_32.1.2.1.2.1 by_12_32.1.2.1.2.2
theorem dL_law_812 : decode cL_law 812 = .ok (.iconst 1, 1) := dq_4 by_12_32.1.2.2.1.1
theorem dL_law_813 : decode cL_law 813 = .ok (.iadd, 1) := dq_96 by_12_32.1.2.2.1.2
theorem dL_law_814 : decode cL_law 814 = .ok (.iaload, 1) := dq_46 by_12_32.1.2.2.2.1
theorem dL_law_815 : decode cL_law 815 = .ok (.aload_n 0, 1) := dq_42 by_12_32.1.2.2.2.2
theorem dL_law_816 : decode cL_law 816 = .ok (.iload 4, 2) := dq_21 by_12_48.1.1.1.1.1 by_12_48.1.1.1.1.2
theorem dL_law_818 : decode cL_law 818 = .ok (.iconst 2, 1) := dq_5 by_12_48.1.1.1.2.1
theorem dL_law_819 : decode cL_law 819 = .ok (.iadd, 1) := dq_96 by_12_48.1.1.1.2.2
theorem dL_law_820 : decode cL_law 820 = .ok (.iaload, 1) := dq_46 by_12_48.1.1.2.1.1
theorem dL_law_821 : decode cL_law 821 = .ok (.invokevirtual 235, 3) := dq_182 by_12_48.1.1.2.1.2 by_12_48.1.1.2.2.1 by_12_48.1.1.2.2.2 rfl
theorem dL_law_824 : decode cL_law 824 = .ok (.istore 6, 2) := dq_54 by_12_48.1.2.1.1.1 by_12_48.1.2.1.1.2
theorem dL_law_826 : decode cL_law 826 = .ok (.goto 1639, 3) := dq_167 by_12_48.1.2.1.2.1 by_12_48.1.2.1.2.2 by_12_48.1.2.2.1.1 (by decide)
theorem dL_law_829 : decode cL_law 829 = .ok (.aload_n 1, 1) := dq_43 by_12_48.1.2.2.1.2
theorem dL_law_830 : decode cL_law 830 = .ok (.aload_n 0, 1) := dq_42 by_12_48.1.2.2.2.1
theorem dL_law_831 : decode cL_law 831 = .ok (.iload 4, 2) := dq_21 by_12_48.1.2.2.2.2 by_13_0.1.1.1.1.1
theorem dL_law_833 : decode cL_law 833 = .ok (.iconst 1, 1) := dq_4 by_13_0.1.1.1.1.2
theorem dL_law_834 : decode cL_law 834 = .ok (.iadd, 1) := dq_96 by_13_0.1.1.1.2.1
theorem dL_law_835 : decode cL_law 835 = .ok (.iaload, 1) := dq_46 by_13_0.1.1.1.2.2
theorem dL_law_836 : decode cL_law 836 = .ok (.aload_n 0, 1) := dq_42 by_13_0.1.1.2.1.1
theorem dL_law_837 : decode cL_law 837 = .ok (.iload 4, 2) := dq_21 by_13_0.1.1.2.1.2 by_13_0.1.1.2.2.1
theorem dL_law_839 : decode cL_law 839 = .ok (.iconst 2, 1) := dq_5 by_13_0.1.1.2.2.2
theorem dL_law_840 : decode cL_law 840 = .ok (.iadd, 1) := dq_96 by_13_0.1.2.1.1.1
theorem dL_law_841 : decode cL_law 841 = .ok (.iaload, 1) := dq_46 by_13_0.1.2.1.1.2
theorem dL_law_842 : decode cL_law 842 = .ok (.aload_n 3, 1) := dq_45 by_13_0.1.2.1.2.1
theorem dL_law_843 : decode cL_law 843 = .ok (.invokestatic 236, 3) := dq_184 by_13_0.1.2.1.2.2 by_13_0.1.2.2.1.1 by_13_0.1.2.2.1.2 rfl
theorem dL_law_846 : decode cL_law 846 = .ok (.istore 5, 2) := dq_54 by_13_0.1.2.2.2.1 by_13_0.1.2.2.2.2
theorem dL_law_848 : decode cL_law 848 = .ok (.aload_n 2, 1) := dq_44 by_13_16.1.1.1.1.1
theorem dL_law_849 : decode cL_law 849 = .ok (.aload_n 0, 1) := dq_42 by_13_16.1.1.1.1.2
theorem dL_law_850 : decode cL_law 850 = .ok (.iload 4, 2) := dq_21 by_13_16.1.1.1.2.1 by_13_16.1.1.1.2.2
theorem dL_law_852 : decode cL_law 852 = .ok (.iconst 1, 1) := dq_4 by_13_16.1.1.2.1.1
theorem dL_law_853 : decode cL_law 853 = .ok (.iadd, 1) := dq_96 by_13_16.1.1.2.1.2
theorem dL_law_854 : decode cL_law 854 = .ok (.iaload, 1) := dq_46 by_13_16.1.1.2.2.1
theorem dL_law_855 : decode cL_law 855 = .ok (.aload_n 0, 1) := dq_42 by_13_16.1.1.2.2.2
theorem dL_law_856 : decode cL_law 856 = .ok (.iload 4, 2) := dq_21 by_13_16.1.2.1.1.1 by_13_16.1.2.1.1.2
theorem dL_law_858 : decode cL_law 858 = .ok (.iconst 2, 1) := dq_5 by_13_16.1.2.1.2.1
theorem dL_law_859 : decode cL_law 859 = .ok (.iadd, 1) := dq_96 by_13_16.1.2.1.2.2
theorem dL_law_860 : decode cL_law 860 = .ok (.iaload, 1) := dq_46 by_13_16.1.2.2.1.1
theorem dL_law_861 : decode cL_law 861 = .ok (.invokevirtual 238, 3) := dq_182 by_13_16.1.2.2.1.2 by_13_16.1.2.2.2.1 by_13_16.1.2.2.2.2 rfl
theorem dL_law_864 : decode cL_law 864 = .ok (.istore 6, 2) := dq_54 by_13_32.1.1.1.1.1 by_13_32.1.1.1.1.2
theorem dL_law_866 : decode cL_law 866 = .ok (.goto 1599, 3) := dq_167 by_13_32.1.1.1.2.1 by_13_32.1.1.1.2.2 by_13_32.1.1.2.1.1 (by decide)
theorem dL_law_869 : decode cL_law 869 = .ok (.aload_n 1, 1) := dq_43 by_13_32.1.1.2.1.2
theorem dL_law_870 : decode cL_law 870 = .ok (.aload_n 0, 1) := dq_42 by_13_32.1.1.2.2.1
theorem dL_law_871 : decode cL_law 871 = .ok (.iload 4, 2) := dq_21 by_13_32.1.1.2.2.2 by_13_32.1.2.1.1.1
theorem dL_law_873 : decode cL_law 873 = .ok (.iconst 1, 1) := dq_4 by_13_32.1.2.1.1.2
theorem dL_law_874 : decode cL_law 874 = .ok (.iadd, 1) := dq_96 by_13_32.1.2.1.2.1
theorem dL_law_875 : decode cL_law 875 = .ok (.iaload, 1) := dq_46 by_13_32.1.2.1.2.2
theorem dL_law_876 : decode cL_law 876 = .ok (.aload_n 0, 1) := dq_42 by_13_32.1.2.2.1.1
theorem dL_law_877 : decode cL_law 877 = .ok (.iload 4, 2) := dq_21 by_13_32.1.2.2.1.2 by_13_32.1.2.2.2.1
theorem dL_law_879 : decode cL_law 879 = .ok (.iconst 2, 1) := dq_5 by_13_32.1.2.2.2.2
theorem dL_law_880 : decode cL_law 880 = .ok (.iadd, 1) := dq_96 by_13_48.1.1.1.1.1
theorem dL_law_881 : decode cL_law 881 = .ok (.iaload, 1) := dq_46 by_13_48.1.1.1.1.2
theorem dL_law_882 : decode cL_law 882 = .ok (.aload_n 3, 1) := dq_45 by_13_48.1.1.1.2.1
theorem dL_law_883 : decode cL_law 883 = .ok (.invokestatic 239, 3) := dq_184 by_13_48.1.1.1.2.2 by_13_48.1.1.2.1.1 by_13_48.1.1.2.1.2 rfl
theorem dL_law_886 : decode cL_law 886 = .ok (.istore 5, 2) := dq_54 by_13_48.1.1.2.2.1 by_13_48.1.1.2.2.2
theorem dL_law_888 : decode cL_law 888 = .ok (.aload_n 2, 1) := dq_44 by_13_48.1.2.1.1.1
theorem dL_law_889 : decode cL_law 889 = .ok (.aload_n 0, 1) := dq_42 by_13_48.1.2.1.1.2
theorem dL_law_890 : decode cL_law 890 = .ok (.iload 4, 2) := dq_21 by_13_48.1.2.1.2.1 by_13_48.1.2.1.2.2
theorem dL_law_892 : decode cL_law 892 = .ok (.iconst 1, 1) := dq_4 by_13_48.1.2.2.1.1
theorem dL_law_893 : decode cL_law 893 = .ok (.iadd, 1) := dq_96 by_13_48.1.2.2.1.2
theorem dL_law_894 : decode cL_law 894 = .ok (.iaload, 1) := dq_46 by_13_48.1.2.2.2.1
theorem dL_law_895 : decode cL_law 895 = .ok (.aload_n 0, 1) := dq_42 by_13_48.1.2.2.2.2
theorem dL_law_896 : decode cL_law 896 = .ok (.iload 4, 2) := dq_21 by_14_0.1.1.1.1.1 by_14_0.1.1.1.1.2
theorem dL_law_898 : decode cL_law 898 = .ok (.iconst 2, 1) := dq_5 by_14_0.1.1.1.2.1
theorem dL_law_899 : decode cL_law 899 = .ok (.iadd, 1) := dq_96 by_14_0.1.1.1.2.2
theorem dL_law_900 : decode cL_law 900 = .ok (.iaload, 1) := dq_46 by_14_0.1.1.2.1.1
theorem dL_law_901 : decode cL_law 901 = .ok (.invokevirtual 241, 3) := dq_182 by_14_0.1.1.2.1.2 by_14_0.1.1.2.2.1 by_14_0.1.1.2.2.2 rfl
theorem dL_law_904 : decode cL_law 904 = .ok (.istore 6, 2) := dq_54 by_14_0.1.2.1.1.1 by_14_0.1.2.1.1.2
theorem dL_law_906 : decode cL_law 906 = .ok (.goto 1559, 3) := dq_167 by_14_0.1.2.1.2.1 by_14_0.1.2.1.2.2 by_14_0.1.2.2.1.1 (by decide)
theorem dL_law_909 : decode cL_law 909 = .ok (.aload_n 1, 1) := dq_43 by_14_0.1.2.2.1.2
theorem dL_law_910 : decode cL_law 910 = .ok (.aload_n 0, 1) := dq_42 by_14_0.1.2.2.2.1
theorem dL_law_911 : decode cL_law 911 = .ok (.iload 4, 2) := dq_21 by_14_0.1.2.2.2.2 by_14_16.1.1.1.1.1
theorem dL_law_913 : decode cL_law 913 = .ok (.iconst 1, 1) := dq_4 by_14_16.1.1.1.1.2
theorem dL_law_914 : decode cL_law 914 = .ok (.iadd, 1) := dq_96 by_14_16.1.1.1.2.1
theorem dL_law_915 : decode cL_law 915 = .ok (.iaload, 1) := dq_46 by_14_16.1.1.1.2.2
theorem dL_law_916 : decode cL_law 916 = .ok (.aload_n 3, 1) := dq_45 by_14_16.1.1.2.1.1
theorem dL_law_917 : decode cL_law 917 = .ok (.invokestatic 242, 3) := dq_184 by_14_16.1.1.2.1.2 by_14_16.1.1.2.2.1 by_14_16.1.1.2.2.2 rfl
theorem dL_law_920 : decode cL_law 920 = .ok (.istore 5, 2) := dq_54 by_14_16.1.2.1.1.1 by_14_16.1.2.1.1.2
theorem dL_law_922 : decode cL_law 922 = .ok (.aload_n 2, 1) := dq_44 by_14_16.1.2.1.2.1
theorem dL_law_923 : decode cL_law 923 = .ok (.aload_n 0, 1) := dq_42 by_14_16.1.2.1.2.2
theorem dL_law_924 : decode cL_law 924 = .ok (.iload 4, 2) := dq_21 by_14_16.1.2.2.1.1 by_14_16.1.2.2.1.2
theorem dL_law_926 : decode cL_law 926 = .ok (.iconst 1, 1) := dq_4 by_14_16.1.2.2.2.1
theorem dL_law_927 : decode cL_law 927 = .ok (.iadd, 1) := dq_96 by_14_16.1.2.2.2.2
theorem dL_law_928 : decode cL_law 928 = .ok (.iaload, 1) := dq_46 by_14_32.1.1.1.1.1
theorem dL_law_929 : decode cL_law 929 = .ok (.invokevirtual 244, 3) := dq_182 by_14_32.1.1.1.1.2 by_14_32.1.1.1.2.1 by_14_32.1.1.1.2.2 rfl
theorem dL_law_932 : decode cL_law 932 = .ok (.istore 6, 2) := dq_54 by_14_32.1.1.2.1.1 by_14_32.1.1.2.1.2
theorem dL_law_934 : decode cL_law 934 = .ok (.goto 1531, 3) := dq_167 by_14_32.1.1.2.2.1 by_14_32.1.1.2.2.2 by_14_32.1.2.1.1.1 (by decide)
theorem dL_law_937 : decode cL_law 937 = .ok (.aload_n 1, 1) := dq_43 by_14_32.1.2.1.1.2
theorem dL_law_938 : decode cL_law 938 = .ok (.aload_n 0, 1) := dq_42 by_14_32.1.2.1.2.1
theorem dL_law_939 : decode cL_law 939 = .ok (.iload 4, 2) := dq_21 by_14_32.1.2.1.2.2 by_14_32.1.2.2.1.1
theorem dL_law_941 : decode cL_law 941 = .ok (.iconst 1, 1) := dq_4 by_14_32.1.2.2.1.2
theorem dL_law_942 : decode cL_law 942 = .ok (.iadd, 1) := dq_96 by_14_32.1.2.2.2.1
theorem dL_law_943 : decode cL_law 943 = .ok (.iaload, 1) := dq_46 by_14_32.1.2.2.2.2
theorem dL_law_944 : decode cL_law 944 = .ok (.aload_n 3, 1) := dq_45 by_14_48.1.1.1.1.1
theorem dL_law_945 : decode cL_law 945 = .ok (.invokestatic 245, 3) := dq_184 by_14_48.1.1.1.1.2 by_14_48.1.1.1.2.1 by_14_48.1.1.1.2.2 rfl
theorem dL_law_948 : decode cL_law 948 = .ok (.istore 5, 2) := dq_54 by_14_48.1.1.2.1.1 by_14_48.1.1.2.1.2
theorem dL_law_950 : decode cL_law 950 = .ok (.aload_n 2, 1) := dq_44 by_14_48.1.1.2.2.1
theorem dL_law_951 : decode cL_law 951 = .ok (.aload_n 0, 1) := dq_42 by_14_48.1.1.2.2.2
theorem dL_law_952 : decode cL_law 952 = .ok (.iload 4, 2) := dq_21 by_14_48.1.2.1.1.1 by_14_48.1.2.1.1.2
theorem dL_law_954 : decode cL_law 954 = .ok (.iconst 1, 1) := dq_4 by_14_48.1.2.1.2.1
theorem dL_law_955 : decode cL_law 955 = .ok (.iadd, 1) := dq_96 by_14_48.1.2.1.2.2
theorem dL_law_956 : decode cL_law 956 = .ok (.iaload, 1) := dq_46 by_14_48.1.2.2.1.1
theorem dL_law_957 : decode cL_law 957 = .ok (.invokevirtual 247, 3) := dq_182 by_14_48.1.2.2.1.2 by_14_48.1.2.2.2.1 by_14_48.1.2.2.2.2 rfl
theorem dL_law_960 : decode cL_law 960 = .ok (.istore 6, 2) := dq_54 by_15_0.1.1.1.1.1 by_15_0.1.1.1.1.2
theorem dL_law_962 : decode cL_law 962 = .ok (.goto 1503, 3) := dq_167 by_15_0.1.1.1.2.1 by_15_0.1.1.1.2.2 by_15_0.1.1.2.1.1 (by decide)
theorem dL_law_965 : decode cL_law 965 = .ok (.aload_n 1, 1) := dq_43 by_15_0.1.1.2.1.2
theorem dL_law_966 : decode cL_law 966 = .ok (.aload_n 3, 1) := dq_45 by_15_0.1.1.2.2.1
theorem dL_law_967 : decode cL_law 967 = .ok (.invokestatic 248, 3) := dq_184 by_15_0.1.1.2.2.2 by_15_0.1.2.1.1.1 by_15_0.1.2.1.1.2 rfl
theorem dL_law_970 : decode cL_law 970 = .ok (.istore 5, 2) := dq_54 by_15_0.1.2.1.2.1 by_15_0.1.2.1.2.2
theorem dL_law_972 : decode cL_law 972 = .ok (.aload_n 2, 1) := dq_44 by_15_0.1.2.2.1.1
theorem dL_law_973 : decode cL_law 973 = .ok (.invokevirtual 251, 3) := dq_182 by_15_0.1.2.2.1.2 by_15_0.1.2.2.2.1 by_15_0.1.2.2.2.2 rfl
theorem dL_law_976 : decode cL_law 976 = .ok (.istore 6, 2) := dq_54 by_15_16.1.1.1.1.1 by_15_16.1.1.1.1.2
theorem dL_law_978 : decode cL_law 978 = .ok (.goto 1487, 3) := dq_167 by_15_16.1.1.1.2.1 by_15_16.1.1.1.2.2 by_15_16.1.1.2.1.1 (by decide)
theorem dL_law_981 : decode cL_law 981 = .ok (.aload_n 1, 1) := dq_43 by_15_16.1.1.2.1.2
theorem dL_law_982 : decode cL_law 982 = .ok (.invokevirtual 252, 3) := dq_182 by_15_16.1.1.2.2.1 by_15_16.1.1.2.2.2 by_15_16.1.2.1.1.1 rfl
theorem dL_law_985 : decode cL_law 985 = .ok (.pop, 1) := dq_87 by_15_16.1.2.1.1.2
theorem dL_law_986 : decode cL_law 986 = .ok (.aload_n 2, 1) := dq_44 by_15_16.1.2.1.2.1
theorem dL_law_987 : decode cL_law 987 = .ok (.invokevirtual 255, 3) := dq_182 by_15_16.1.2.1.2.2 by_15_16.1.2.2.1.1 by_15_16.1.2.2.1.2 rfl
theorem dL_law_990 : decode cL_law 990 = .ok (.pop, 1) := dq_87 by_15_16.1.2.2.2.1
theorem dL_law_991 : decode cL_law 991 = .ok (.goto 1474, 3) := dq_167 by_15_16.1.2.2.2.2 by_15_32.1.1.1.1.1 by_15_32.1.1.1.1.2 (by decide)
theorem dL_law_994 : decode cL_law 994 = .ok (.aload_n 1, 1) := dq_43 by_15_32.1.1.1.2.1
theorem dL_law_995 : decode cL_law 995 = .ok (.aload_n 0, 1) := dq_42 by_15_32.1.1.1.2.2
theorem dL_law_996 : decode cL_law 996 = .ok (.iload 4, 2) := dq_21 by_15_32.1.1.2.1.1 by_15_32.1.1.2.1.2
theorem dL_law_998 : decode cL_law 998 = .ok (.iconst 1, 1) := dq_4 by_15_32.1.1.2.2.1
theorem dL_law_999 : decode cL_law 999 = .ok (.iadd, 1) := dq_96 by_15_32.1.1.2.2.2
theorem dL_law_1000 : decode cL_law 1000 = .ok (.iaload, 1) := dq_46 by_15_32.1.2.1.1.1
theorem dL_law_1001 : decode cL_law 1001 = .ok (.aload_n 3, 1) := dq_45 by_15_32.1.2.1.1.2
theorem dL_law_1002 : decode cL_law 1002 = .ok (.invokestatic 256, 3) := dq_184 by_15_32.1.2.1.2.1 by_15_32.1.2.1.2.2 by_15_32.1.2.2.1.1 rfl
theorem dL_law_1005 : decode cL_law 1005 = .ok (.istore 5, 2) := dq_54 by_15_32.1.2.2.1.2 by_15_32.1.2.2.2.1
theorem dL_law_1007 : decode cL_law 1007 = .ok (.aload_n 2, 1) := dq_44 by_15_32.1.2.2.2.2
theorem dL_law_1008 : decode cL_law 1008 = .ok (.aload_n 0, 1) := dq_42 by_15_48.1.1.1.1.1
theorem dL_law_1009 : decode cL_law 1009 = .ok (.iload 4, 2) := dq_21 by_15_48.1.1.1.1.2 by_15_48.1.1.1.2.1
theorem dL_law_1011 : decode cL_law 1011 = .ok (.iconst 1, 1) := dq_4 by_15_48.1.1.1.2.2
theorem dL_law_1012 : decode cL_law 1012 = .ok (.iadd, 1) := dq_96 by_15_48.1.1.2.1.1
theorem dL_law_1013 : decode cL_law 1013 = .ok (.iaload, 1) := dq_46 by_15_48.1.1.2.1.2
theorem dL_law_1014 : decode cL_law 1014 = .ok (.invokevirtual 258, 3) := dq_182 by_15_48.1.1.2.2.1 by_15_48.1.1.2.2.2 by_15_48.1.2.1.1.1 rfl
theorem dL_law_1017 : decode cL_law 1017 = .ok (.istore 6, 2) := dq_54 by_15_48.1.2.1.1.2 by_15_48.1.2.1.2.1
theorem dL_law_1019 : decode cL_law 1019 = .ok (.goto 1446, 3) := dq_167 by_15_48.1.2.1.2.2 by_15_48.1.2.2.1.1 by_15_48.1.2.2.1.2 (by decide)
theorem dL_law_1022 : decode cL_law 1022 = .ok (.aload_n 1, 1) := dq_43 by_15_48.1.2.2.2.1
theorem dL_law_1023 : decode cL_law 1023 = .ok (.aload_n 0, 1) := dq_42 by_15_48.1.2.2.2.2
theorem dL_law_1024 : decode cL_law 1024 = .ok (.iload 4, 2) := dq_21 by_16_0.1.1.1.1.1 by_16_0.1.1.1.1.2
theorem dL_law_1026 : decode cL_law 1026 = .ok (.iconst 1, 1) := dq_4 by_16_0.1.1.1.2.1
theorem dL_law_1027 : decode cL_law 1027 = .ok (.iadd, 1) := dq_96 by_16_0.1.1.1.2.2
theorem dL_law_1028 : decode cL_law 1028 = .ok (.iaload, 1) := dq_46 by_16_0.1.1.2.1.1
theorem dL_law_1029 : decode cL_law 1029 = .ok (.aload_n 3, 1) := dq_45 by_16_0.1.1.2.1.2
theorem dL_law_1030 : decode cL_law 1030 = .ok (.invokestatic 259, 3) := dq_184 by_16_0.1.1.2.2.1 by_16_0.1.1.2.2.2 by_16_0.1.2.1.1.1 rfl
theorem dL_law_1033 : decode cL_law 1033 = .ok (.istore 5, 2) := dq_54 by_16_0.1.2.1.1.2 by_16_0.1.2.1.2.1
theorem dL_law_1035 : decode cL_law 1035 = .ok (.aload_n 2, 1) := dq_44 by_16_0.1.2.1.2.2
theorem dL_law_1036 : decode cL_law 1036 = .ok (.aload_n 0, 1) := dq_42 by_16_0.1.2.2.1.1
theorem dL_law_1037 : decode cL_law 1037 = .ok (.iload 4, 2) := dq_21 by_16_0.1.2.2.1.2 by_16_0.1.2.2.2.1
theorem dL_law_1039 : decode cL_law 1039 = .ok (.iconst 1, 1) := dq_4 by_16_0.1.2.2.2.2
theorem dL_law_1040 : decode cL_law 1040 = .ok (.iadd, 1) := dq_96 by_16_16.1.1.1.1.1
theorem dL_law_1041 : decode cL_law 1041 = .ok (.iaload, 1) := dq_46 by_16_16.1.1.1.1.2
theorem dL_law_1042 : decode cL_law 1042 = .ok (.invokevirtual 261, 3) := dq_182 by_16_16.1.1.1.2.1 by_16_16.1.1.1.2.2 by_16_16.1.1.2.1.1 rfl
theorem dL_law_1045 : decode cL_law 1045 = .ok (.istore 6, 2) := dq_54 by_16_16.1.1.2.1.2 by_16_16.1.1.2.2.1
theorem dL_law_1047 : decode cL_law 1047 = .ok (.goto 1418, 3) := dq_167 by_16_16.1.1.2.2.2 by_16_16.1.2.1.1.1 by_16_16.1.2.1.1.2 (by decide)
theorem dL_law_1050 : decode cL_law 1050 = .ok (.aload_n 1, 1) := dq_43 by_16_16.1.2.1.2.1
theorem dL_law_1051 : decode cL_law 1051 = .ok (.aload_n 0, 1) := dq_42 by_16_16.1.2.1.2.2
theorem dL_law_1052 : decode cL_law 1052 = .ok (.iload 4, 2) := dq_21 by_16_16.1.2.2.1.1 by_16_16.1.2.2.1.2
theorem dL_law_1054 : decode cL_law 1054 = .ok (.iconst 1, 1) := dq_4 by_16_16.1.2.2.2.1
theorem dL_law_1055 : decode cL_law 1055 = .ok (.iadd, 1) := dq_96 by_16_16.1.2.2.2.2
theorem dL_law_1056 : decode cL_law 1056 = .ok (.iaload, 1) := dq_46 by_16_32.1.1.1.1.1
theorem dL_law_1057 : decode cL_law 1057 = .ok (.aload_n 3, 1) := dq_45 by_16_32.1.1.1.1.2
theorem dL_law_1058 : decode cL_law 1058 = .ok (.invokestatic 262, 3) := dq_184 by_16_32.1.1.1.2.1 by_16_32.1.1.1.2.2 by_16_32.1.1.2.1.1 rfl
theorem dL_law_1061 : decode cL_law 1061 = .ok (.istore 5, 2) := dq_54 by_16_32.1.1.2.1.2 by_16_32.1.1.2.2.1
theorem dL_law_1063 : decode cL_law 1063 = .ok (.aload_n 2, 1) := dq_44 by_16_32.1.1.2.2.2
theorem dL_law_1064 : decode cL_law 1064 = .ok (.aload_n 0, 1) := dq_42 by_16_32.1.2.1.1.1
theorem dL_law_1065 : decode cL_law 1065 = .ok (.iload 4, 2) := dq_21 by_16_32.1.2.1.1.2 by_16_32.1.2.1.2.1
theorem dL_law_1067 : decode cL_law 1067 = .ok (.iconst 1, 1) := dq_4 by_16_32.1.2.1.2.2
theorem dL_law_1068 : decode cL_law 1068 = .ok (.iadd, 1) := dq_96 by_16_32.1.2.2.1.1
theorem dL_law_1069 : decode cL_law 1069 = .ok (.iaload, 1) := dq_46 by_16_32.1.2.2.1.2
theorem dL_law_1070 : decode cL_law 1070 = .ok (.invokevirtual 264, 3) := dq_182 by_16_32.1.2.2.2.1 by_16_32.1.2.2.2.2 by_16_48.1.1.1.1.1 rfl
theorem dL_law_1073 : decode cL_law 1073 = .ok (.istore 6, 2) := dq_54 by_16_48.1.1.1.1.2 by_16_48.1.1.1.2.1
theorem dL_law_1075 : decode cL_law 1075 = .ok (.goto 1390, 3) := dq_167 by_16_48.1.1.1.2.2 by_16_48.1.1.2.1.1 by_16_48.1.1.2.1.2 (by decide)
theorem dL_law_1078 : decode cL_law 1078 = .ok (.aload_n 1, 1) := dq_43 by_16_48.1.1.2.2.1
theorem dL_law_1079 : decode cL_law 1079 = .ok (.aload_n 0, 1) := dq_42 by_16_48.1.1.2.2.2
theorem dL_law_1080 : decode cL_law 1080 = .ok (.iload 4, 2) := dq_21 by_16_48.1.2.1.1.1 by_16_48.1.2.1.1.2
theorem dL_law_1082 : decode cL_law 1082 = .ok (.iconst 1, 1) := dq_4 by_16_48.1.2.1.2.1
theorem dL_law_1083 : decode cL_law 1083 = .ok (.iadd, 1) := dq_96 by_16_48.1.2.1.2.2
theorem dL_law_1084 : decode cL_law 1084 = .ok (.iaload, 1) := dq_46 by_16_48.1.2.2.1.1
theorem dL_law_1085 : decode cL_law 1085 = .ok (.aload_n 3, 1) := dq_45 by_16_48.1.2.2.1.2
theorem dL_law_1086 : decode cL_law 1086 = .ok (.invokestatic 265, 3) := dq_184 by_16_48.1.2.2.2.1 by_16_48.1.2.2.2.2 by_17_0.1.1.1.1.1 rfl
theorem dL_law_1089 : decode cL_law 1089 = .ok (.istore 5, 2) := dq_54 by_17_0.1.1.1.1.2 by_17_0.1.1.1.2.1
theorem dL_law_1091 : decode cL_law 1091 = .ok (.aload_n 2, 1) := dq_44 by_17_0.1.1.1.2.2
theorem dL_law_1092 : decode cL_law 1092 = .ok (.aload_n 0, 1) := dq_42 by_17_0.1.1.2.1.1
theorem dL_law_1093 : decode cL_law 1093 = .ok (.iload 4, 2) := dq_21 by_17_0.1.1.2.1.2 by_17_0.1.1.2.2.1
theorem dL_law_1095 : decode cL_law 1095 = .ok (.iconst 1, 1) := dq_4 by_17_0.1.1.2.2.2
theorem dL_law_1096 : decode cL_law 1096 = .ok (.iadd, 1) := dq_96 by_17_0.1.2.1.1.1
theorem dL_law_1097 : decode cL_law 1097 = .ok (.iaload, 1) := dq_46 by_17_0.1.2.1.1.2
theorem dL_law_1098 : decode cL_law 1098 = .ok (.invokevirtual 267, 3) := dq_182 by_17_0.1.2.1.2.1 by_17_0.1.2.1.2.2 by_17_0.1.2.2.1.1 rfl
theorem dL_law_1101 : decode cL_law 1101 = .ok (.istore 6, 2) := dq_54 by_17_0.1.2.2.1.2 by_17_0.1.2.2.2.1
theorem dL_law_1103 : decode cL_law 1103 = .ok (.goto 1362, 3) := dq_167 by_17_0.1.2.2.2.2 by_17_16.1.1.1.1.1 by_17_16.1.1.1.1.2 (by decide)
theorem dL_law_1106 : decode cL_law 1106 = .ok (.aload_n 1, 1) := dq_43 by_17_16.1.1.1.2.1
theorem dL_law_1107 : decode cL_law 1107 = .ok (.aload_n 0, 1) := dq_42 by_17_16.1.1.1.2.2
theorem dL_law_1108 : decode cL_law 1108 = .ok (.iload 4, 2) := dq_21 by_17_16.1.1.2.1.1 by_17_16.1.1.2.1.2
theorem dL_law_1110 : decode cL_law 1110 = .ok (.iconst 1, 1) := dq_4 by_17_16.1.1.2.2.1
theorem dL_law_1111 : decode cL_law 1111 = .ok (.iadd, 1) := dq_96 by_17_16.1.1.2.2.2
theorem dL_law_1112 : decode cL_law 1112 = .ok (.iaload, 1) := dq_46 by_17_16.1.2.1.1.1
theorem dL_law_1113 : decode cL_law 1113 = .ok (.aload_n 3, 1) := dq_45 by_17_16.1.2.1.1.2
theorem dL_law_1114 : decode cL_law 1114 = .ok (.invokestatic 268, 3) := dq_184 by_17_16.1.2.1.2.1 by_17_16.1.2.1.2.2 by_17_16.1.2.2.1.1 rfl
theorem dL_law_1117 : decode cL_law 1117 = .ok (.istore 5, 2) := dq_54 by_17_16.1.2.2.1.2 by_17_16.1.2.2.2.1
theorem dL_law_1119 : decode cL_law 1119 = .ok (.aload_n 2, 1) := dq_44 by_17_16.1.2.2.2.2
theorem dL_law_1120 : decode cL_law 1120 = .ok (.aload_n 0, 1) := dq_42 by_17_32.1.1.1.1.1
theorem dL_law_1121 : decode cL_law 1121 = .ok (.iload 4, 2) := dq_21 by_17_32.1.1.1.1.2 by_17_32.1.1.1.2.1
theorem dL_law_1123 : decode cL_law 1123 = .ok (.iconst 1, 1) := dq_4 by_17_32.1.1.1.2.2
theorem dL_law_1124 : decode cL_law 1124 = .ok (.iadd, 1) := dq_96 by_17_32.1.1.2.1.1
theorem dL_law_1125 : decode cL_law 1125 = .ok (.iaload, 1) := dq_46 by_17_32.1.1.2.1.2
theorem dL_law_1126 : decode cL_law 1126 = .ok (.invokevirtual 270, 3) := dq_182 by_17_32.1.1.2.2.1 by_17_32.1.1.2.2.2 by_17_32.1.2.1.1.1 rfl
theorem dL_law_1129 : decode cL_law 1129 = .ok (.istore 6, 2) := dq_54 by_17_32.1.2.1.1.2 by_17_32.1.2.1.2.1
theorem dL_law_1131 : decode cL_law 1131 = .ok (.goto 1334, 3) := dq_167 by_17_32.1.2.1.2.2 by_17_32.1.2.2.1.1 by_17_32.1.2.2.1.2 (by decide)
theorem dL_law_1134 : decode cL_law 1134 = .ok (.aload_n 1, 1) := dq_43 by_17_32.1.2.2.2.1
theorem dL_law_1135 : decode cL_law 1135 = .ok (.aload_n 0, 1) := dq_42 by_17_32.1.2.2.2.2
theorem dL_law_1136 : decode cL_law 1136 = .ok (.iload 4, 2) := dq_21 by_17_48.1.1.1.1.1 by_17_48.1.1.1.1.2
theorem dL_law_1138 : decode cL_law 1138 = .ok (.iconst 1, 1) := dq_4 by_17_48.1.1.1.2.1
theorem dL_law_1139 : decode cL_law 1139 = .ok (.iadd, 1) := dq_96 by_17_48.1.1.1.2.2
theorem dL_law_1140 : decode cL_law 1140 = .ok (.iaload, 1) := dq_46 by_17_48.1.1.2.1.1
theorem dL_law_1141 : decode cL_law 1141 = .ok (.aload_n 3, 1) := dq_45 by_17_48.1.1.2.1.2
theorem dL_law_1142 : decode cL_law 1142 = .ok (.invokestatic 271, 3) := dq_184 by_17_48.1.1.2.2.1 by_17_48.1.1.2.2.2 by_17_48.1.2.1.1.1 rfl
theorem dL_law_1145 : decode cL_law 1145 = .ok (.istore 5, 2) := dq_54 by_17_48.1.2.1.1.2 by_17_48.1.2.1.2.1
theorem dL_law_1147 : decode cL_law 1147 = .ok (.aload_n 2, 1) := dq_44 by_17_48.1.2.1.2.2
theorem dL_law_1148 : decode cL_law 1148 = .ok (.aload_n 0, 1) := dq_42 by_17_48.1.2.2.1.1
theorem dL_law_1149 : decode cL_law 1149 = .ok (.iload 4, 2) := dq_21 by_17_48.1.2.2.1.2 by_17_48.1.2.2.2.1
theorem dL_law_1151 : decode cL_law 1151 = .ok (.iconst 1, 1) := dq_4 by_17_48.1.2.2.2.2
theorem dL_law_1152 : decode cL_law 1152 = .ok (.iadd, 1) := dq_96 by_18_0.1.1.1.1.1
theorem dL_law_1153 : decode cL_law 1153 = .ok (.iaload, 1) := dq_46 by_18_0.1.1.1.1.2
theorem dL_law_1154 : decode cL_law 1154 = .ok (.invokevirtual 273, 3) := dq_182 by_18_0.1.1.1.2.1 by_18_0.1.1.1.2.2 by_18_0.1.1.2.1.1 rfl
theorem dL_law_1157 : decode cL_law 1157 = .ok (.istore 6, 2) := dq_54 by_18_0.1.1.2.1.2 by_18_0.1.1.2.2.1
theorem dL_law_1159 : decode cL_law 1159 = .ok (.goto 1306, 3) := dq_167 by_18_0.1.1.2.2.2 by_18_0.1.2.1.1.1 by_18_0.1.2.1.1.2 (by decide)
theorem dL_law_1162 : decode cL_law 1162 = .ok (.aload_n 1, 1) := dq_43 by_18_0.1.2.1.2.1
theorem dL_law_1163 : decode cL_law 1163 = .ok (.aload_n 0, 1) := dq_42 by_18_0.1.2.1.2.2
theorem dL_law_1164 : decode cL_law 1164 = .ok (.iload 4, 2) := dq_21 by_18_0.1.2.2.1.1 by_18_0.1.2.2.1.2
theorem dL_law_1166 : decode cL_law 1166 = .ok (.iconst 1, 1) := dq_4 by_18_0.1.2.2.2.1
theorem dL_law_1167 : decode cL_law 1167 = .ok (.iadd, 1) := dq_96 by_18_0.1.2.2.2.2
theorem dL_law_1168 : decode cL_law 1168 = .ok (.iaload, 1) := dq_46 by_18_16.1.1.1.1.1
theorem dL_law_1169 : decode cL_law 1169 = .ok (.aload_n 0, 1) := dq_42 by_18_16.1.1.1.1.2
theorem dL_law_1170 : decode cL_law 1170 = .ok (.iload 4, 2) := dq_21 by_18_16.1.1.1.2.1 by_18_16.1.1.1.2.2
theorem dL_law_1172 : decode cL_law 1172 = .ok (.iconst 2, 1) := dq_5 by_18_16.1.1.2.1.1
theorem dL_law_1173 : decode cL_law 1173 = .ok (.iadd, 1) := dq_96 by_18_16.1.1.2.1.2
theorem dL_law_1174 : decode cL_law 1174 = .ok (.iaload, 1) := dq_46 by_18_16.1.1.2.2.1
theorem dL_law_1175 : decode cL_law 1175 = .ok (.ifCond .eq 7, 3) := dq_153 by_18_16.1.1.2.2.2 by_18_16.1.2.1.1.1 by_18_16.1.2.1.1.2 (by decide)
theorem dL_law_1178 : decode cL_law 1178 = .ok (.iconst 1, 1) := dq_4 by_18_16.1.2.1.2.1
theorem dL_law_1179 : decode cL_law 1179 = .ok (.goto 4, 3) := dq_167 by_18_16.1.2.1.2.2 by_18_16.1.2.2.1.1 by_18_16.1.2.2.1.2 (by decide)
theorem dL_law_1182 : decode cL_law 1182 = .ok (.iconst 0, 1) := dq_3 by_18_16.1.2.2.2.1
theorem dL_law_1183 : decode cL_law 1183 = .ok (.aload_n 3, 1) := dq_45 by_18_16.1.2.2.2.2
theorem dL_law_1184 : decode cL_law 1184 = .ok (.invokestatic 274, 3) := dq_184 by_18_32.1.1.1.1.1 by_18_32.1.1.1.1.2 by_18_32.1.1.1.2.1 rfl
theorem dL_law_1187 : decode cL_law 1187 = .ok (.istore 5, 2) := dq_54 by_18_32.1.1.1.2.2 by_18_32.1.1.2.1.1
theorem dL_law_1189 : decode cL_law 1189 = .ok (.aload_n 2, 1) := dq_44 by_18_32.1.1.2.1.2
theorem dL_law_1190 : decode cL_law 1190 = .ok (.aload_n 0, 1) := dq_42 by_18_32.1.1.2.2.1
theorem dL_law_1191 : decode cL_law 1191 = .ok (.iload 4, 2) := dq_21 by_18_32.1.1.2.2.2 by_18_32.1.2.1.1.1
theorem dL_law_1193 : decode cL_law 1193 = .ok (.iconst 1, 1) := dq_4 by_18_32.1.2.1.1.2
theorem dL_law_1194 : decode cL_law 1194 = .ok (.iadd, 1) := dq_96 by_18_32.1.2.1.2.1
theorem dL_law_1195 : decode cL_law 1195 = .ok (.iaload, 1) := dq_46 by_18_32.1.2.1.2.2
theorem dL_law_1196 : decode cL_law 1196 = .ok (.aload_n 0, 1) := dq_42 by_18_32.1.2.2.1.1
theorem dL_law_1197 : decode cL_law 1197 = .ok (.iload 4, 2) := dq_21 by_18_32.1.2.2.1.2 by_18_32.1.2.2.2.1
theorem dL_law_1199 : decode cL_law 1199 = .ok (.iconst 2, 1) := dq_5 by_18_32.1.2.2.2.2
theorem dL_law_1200 : decode cL_law 1200 = .ok (.iadd, 1) := dq_96 by_18_48.1.1.1.1.1
theorem dL_law_1201 : decode cL_law 1201 = .ok (.iaload, 1) := dq_46 by_18_48.1.1.1.1.2
theorem dL_law_1202 : decode cL_law 1202 = .ok (.ifCond .eq 7, 3) := dq_153 by_18_48.1.1.1.2.1 by_18_48.1.1.1.2.2 by_18_48.1.1.2.1.1 (by decide)
theorem dL_law_1205 : decode cL_law 1205 = .ok (.iconst 1, 1) := dq_4 by_18_48.1.1.2.1.2
theorem dL_law_1206 : decode cL_law 1206 = .ok (.goto 4, 3) := dq_167 by_18_48.1.1.2.2.1 by_18_48.1.1.2.2.2 by_18_48.1.2.1.1.1 (by decide)
theorem dL_law_1209 : decode cL_law 1209 = .ok (.iconst 0, 1) := dq_3 by_18_48.1.2.1.1.2
theorem dL_law_1210 : decode cL_law 1210 = .ok (.invokevirtual 277, 3) := dq_182 by_18_48.1.2.1.2.1 by_18_48.1.2.1.2.2 by_18_48.1.2.2.1.1 rfl
theorem dL_law_1213 : decode cL_law 1213 = .ok (.istore 6, 2) := dq_54 by_18_48.1.2.2.1.2 by_18_48.1.2.2.2.1
theorem dL_law_1215 : decode cL_law 1215 = .ok (.goto 1250, 3) := dq_167 by_18_48.1.2.2.2.2 by_19_0.1.1.1.1.1 by_19_0.1.1.1.1.2 (by decide)
theorem dL_law_1218 : decode cL_law 1218 = .ok (.aload_n 1, 1) := dq_43 by_19_0.1.1.1.2.1
theorem dL_law_1219 : decode cL_law 1219 = .ok (.aload_n 0, 1) := dq_42 by_19_0.1.1.1.2.2
theorem dL_law_1220 : decode cL_law 1220 = .ok (.iload 4, 2) := dq_21 by_19_0.1.1.2.1.1 by_19_0.1.1.2.1.2
theorem dL_law_1222 : decode cL_law 1222 = .ok (.iconst 1, 1) := dq_4 by_19_0.1.1.2.2.1
theorem dL_law_1223 : decode cL_law 1223 = .ok (.iadd, 1) := dq_96 by_19_0.1.1.2.2.2
theorem dL_law_1224 : decode cL_law 1224 = .ok (.iaload, 1) := dq_46 by_19_0.1.2.1.1.1
theorem dL_law_1225 : decode cL_law 1225 = .ok (.aload_n 0, 1) := dq_42 by_19_0.1.2.1.1.2
theorem dL_law_1226 : decode cL_law 1226 = .ok (.iload 4, 2) := dq_21 by_19_0.1.2.1.2.1 by_19_0.1.2.1.2.2
theorem dL_law_1228 : decode cL_law 1228 = .ok (.iconst 2, 1) := dq_5 by_19_0.1.2.2.1.1
theorem dL_law_1229 : decode cL_law 1229 = .ok (.iadd, 1) := dq_96 by_19_0.1.2.2.1.2
theorem dL_law_1230 : decode cL_law 1230 = .ok (.iaload, 1) := dq_46 by_19_0.1.2.2.2.1
theorem dL_law_1231 : decode cL_law 1231 = .ok (.ifCond .eq 7, 3) := dq_153 by_19_0.1.2.2.2.2 by_19_16.1.1.1.1.1 by_19_16.1.1.1.1.2 (by decide)
theorem dL_law_1234 : decode cL_law 1234 = .ok (.iconst 1, 1) := dq_4 by_19_16.1.1.1.2.1
theorem dL_law_1235 : decode cL_law 1235 = .ok (.goto 4, 3) := dq_167 by_19_16.1.1.1.2.2 by_19_16.1.1.2.1.1 by_19_16.1.1.2.1.2 (by decide)
theorem dL_law_1238 : decode cL_law 1238 = .ok (.iconst 0, 1) := dq_3 by_19_16.1.1.2.2.1
theorem dL_law_1239 : decode cL_law 1239 = .ok (.aload_n 3, 1) := dq_45 by_19_16.1.1.2.2.2
theorem dL_law_1240 : decode cL_law 1240 = .ok (.invokestatic 278, 3) := dq_184 by_19_16.1.2.1.1.1 by_19_16.1.2.1.1.2 by_19_16.1.2.1.2.1 rfl
theorem dL_law_1243 : decode cL_law 1243 = .ok (.istore 5, 2) := dq_54 by_19_16.1.2.1.2.2 by_19_16.1.2.2.1.1
theorem dL_law_1245 : decode cL_law 1245 = .ok (.aload_n 2, 1) := dq_44 by_19_16.1.2.2.1.2
theorem dL_law_1246 : decode cL_law 1246 = .ok (.aload_n 0, 1) := dq_42 by_19_16.1.2.2.2.1
theorem dL_law_1247 : decode cL_law 1247 = .ok (.iload 4, 2) := dq_21 by_19_16.1.2.2.2.2 by_19_32.1.1.1.1.1
theorem dL_law_1249 : decode cL_law 1249 = .ok (.iconst 1, 1) := dq_4 by_19_32.1.1.1.1.2
theorem dL_law_1250 : decode cL_law 1250 = .ok (.iadd, 1) := dq_96 by_19_32.1.1.1.2.1
theorem dL_law_1251 : decode cL_law 1251 = .ok (.iaload, 1) := dq_46 by_19_32.1.1.1.2.2
theorem dL_law_1252 : decode cL_law 1252 = .ok (.aload_n 0, 1) := dq_42 by_19_32.1.1.2.1.1
theorem dL_law_1253 : decode cL_law 1253 = .ok (.iload 4, 2) := dq_21 by_19_32.1.1.2.1.2 by_19_32.1.1.2.2.1
theorem dL_law_1255 : decode cL_law 1255 = .ok (.iconst 2, 1) := dq_5 by_19_32.1.1.2.2.2
theorem dL_law_1256 : decode cL_law 1256 = .ok (.iadd, 1) := dq_96 by_19_32.1.2.1.1.1
theorem dL_law_1257 : decode cL_law 1257 = .ok (.iaload, 1) := dq_46 by_19_32.1.2.1.1.2
theorem dL_law_1258 : decode cL_law 1258 = .ok (.ifCond .eq 7, 3) := dq_153 by_19_32.1.2.1.2.1 by_19_32.1.2.1.2.2 by_19_32.1.2.2.1.1 (by decide)
theorem dL_law_1261 : decode cL_law 1261 = .ok (.iconst 1, 1) := dq_4 by_19_32.1.2.2.1.2
theorem dL_law_1262 : decode cL_law 1262 = .ok (.goto 4, 3) := dq_167 by_19_32.1.2.2.2.1 by_19_32.1.2.2.2.2 by_19_48.1.1.1.1.1 (by decide)
theorem dL_law_1265 : decode cL_law 1265 = .ok (.iconst 0, 1) := dq_3 by_19_48.1.1.1.1.2
theorem dL_law_1266 : decode cL_law 1266 = .ok (.invokevirtual 280, 3) := dq_182 by_19_48.1.1.1.2.1 by_19_48.1.1.1.2.2 by_19_48.1.1.2.1.1 rfl
theorem dL_law_1269 : decode cL_law 1269 = .ok (.istore 6, 2) := dq_54 by_19_48.1.1.2.1.2 by_19_48.1.1.2.2.1
theorem dL_law_1271 : decode cL_law 1271 = .ok (.goto 1194, 3) := dq_167 by_19_48.1.1.2.2.2 by_19_48.1.2.1.1.1 by_19_48.1.2.1.1.2 (by decide)
theorem dL_law_1274 : decode cL_law 1274 = .ok (.aload_n 1, 1) := dq_43 by_19_48.1.2.1.2.1
theorem dL_law_1275 : decode cL_law 1275 = .ok (.aload_n 0, 1) := dq_42 by_19_48.1.2.1.2.2
theorem dL_law_1276 : decode cL_law 1276 = .ok (.iload 4, 2) := dq_21 by_19_48.1.2.2.1.1 by_19_48.1.2.2.1.2
theorem dL_law_1278 : decode cL_law 1278 = .ok (.iconst 1, 1) := dq_4 by_19_48.1.2.2.2.1
theorem dL_law_1279 : decode cL_law 1279 = .ok (.iadd, 1) := dq_96 by_19_48.1.2.2.2.2
theorem dL_law_1280 : decode cL_law 1280 = .ok (.iaload, 1) := dq_46 by_20_0.1.1.1.1.1
theorem dL_law_1281 : decode cL_law 1281 = .ok (.aload_n 0, 1) := dq_42 by_20_0.1.1.1.1.2
theorem dL_law_1282 : decode cL_law 1282 = .ok (.iload 4, 2) := dq_21 by_20_0.1.1.1.2.1 by_20_0.1.1.1.2.2
theorem dL_law_1284 : decode cL_law 1284 = .ok (.iconst 2, 1) := dq_5 by_20_0.1.1.2.1.1
theorem dL_law_1285 : decode cL_law 1285 = .ok (.iadd, 1) := dq_96 by_20_0.1.1.2.1.2
theorem dL_law_1286 : decode cL_law 1286 = .ok (.iaload, 1) := dq_46 by_20_0.1.1.2.2.1
theorem dL_law_1287 : decode cL_law 1287 = .ok (.ifCond .eq 7, 3) := dq_153 by_20_0.1.1.2.2.2 by_20_0.1.2.1.1.1 by_20_0.1.2.1.1.2 (by decide)
theorem dL_law_1290 : decode cL_law 1290 = .ok (.iconst 1, 1) := dq_4 by_20_0.1.2.1.2.1
theorem dL_law_1291 : decode cL_law 1291 = .ok (.goto 4, 3) := dq_167 by_20_0.1.2.1.2.2 by_20_0.1.2.2.1.1 by_20_0.1.2.2.1.2 (by decide)
theorem dL_law_1294 : decode cL_law 1294 = .ok (.iconst 0, 1) := dq_3 by_20_0.1.2.2.2.1
theorem dL_law_1295 : decode cL_law 1295 = .ok (.aload_n 3, 1) := dq_45 by_20_0.1.2.2.2.2
theorem dL_law_1296 : decode cL_law 1296 = .ok (.invokestatic 281, 3) := dq_184 by_20_16.1.1.1.1.1 by_20_16.1.1.1.1.2 by_20_16.1.1.1.2.1 rfl
theorem dL_law_1299 : decode cL_law 1299 = .ok (.istore 5, 2) := dq_54 by_20_16.1.1.1.2.2 by_20_16.1.1.2.1.1
theorem dL_law_1301 : decode cL_law 1301 = .ok (.aload_n 2, 1) := dq_44 by_20_16.1.1.2.1.2
theorem dL_law_1302 : decode cL_law 1302 = .ok (.aload_n 0, 1) := dq_42 by_20_16.1.1.2.2.1
theorem dL_law_1303 : decode cL_law 1303 = .ok (.iload 4, 2) := dq_21 by_20_16.1.1.2.2.2 by_20_16.1.2.1.1.1
theorem dL_law_1305 : decode cL_law 1305 = .ok (.iconst 1, 1) := dq_4 by_20_16.1.2.1.1.2
theorem dL_law_1306 : decode cL_law 1306 = .ok (.iadd, 1) := dq_96 by_20_16.1.2.1.2.1
theorem dL_law_1307 : decode cL_law 1307 = .ok (.iaload, 1) := dq_46 by_20_16.1.2.1.2.2
theorem dL_law_1308 : decode cL_law 1308 = .ok (.aload_n 0, 1) := dq_42 by_20_16.1.2.2.1.1
theorem dL_law_1309 : decode cL_law 1309 = .ok (.iload 4, 2) := dq_21 by_20_16.1.2.2.1.2 by_20_16.1.2.2.2.1
theorem dL_law_1311 : decode cL_law 1311 = .ok (.iconst 2, 1) := dq_5 by_20_16.1.2.2.2.2
theorem dL_law_1312 : decode cL_law 1312 = .ok (.iadd, 1) := dq_96 by_20_32.1.1.1.1.1
theorem dL_law_1313 : decode cL_law 1313 = .ok (.iaload, 1) := dq_46 by_20_32.1.1.1.1.2
theorem dL_law_1314 : decode cL_law 1314 = .ok (.ifCond .eq 7, 3) := dq_153 by_20_32.1.1.1.2.1 by_20_32.1.1.1.2.2 by_20_32.1.1.2.1.1 (by decide)
theorem dL_law_1317 : decode cL_law 1317 = .ok (.iconst 1, 1) := dq_4 by_20_32.1.1.2.1.2
theorem dL_law_1318 : decode cL_law 1318 = .ok (.goto 4, 3) := dq_167 by_20_32.1.1.2.2.1 by_20_32.1.1.2.2.2 by_20_32.1.2.1.1.1 (by decide)
theorem dL_law_1321 : decode cL_law 1321 = .ok (.iconst 0, 1) := dq_3 by_20_32.1.2.1.1.2
theorem dL_law_1322 : decode cL_law 1322 = .ok (.invokevirtual 283, 3) := dq_182 by_20_32.1.2.1.2.1 by_20_32.1.2.1.2.2 by_20_32.1.2.2.1.1 rfl
theorem dL_law_1325 : decode cL_law 1325 = .ok (.istore 6, 2) := dq_54 by_20_32.1.2.2.1.2 by_20_32.1.2.2.2.1
theorem dL_law_1327 : decode cL_law 1327 = .ok (.goto 1138, 3) := dq_167 by_20_32.1.2.2.2.2 by_20_48.1.1.1.1.1 by_20_48.1.1.1.1.2 (by decide)
theorem dL_law_1330 : decode cL_law 1330 = .ok (.aload_n 1, 1) := dq_43 by_20_48.1.1.1.2.1
theorem dL_law_1331 : decode cL_law 1331 = .ok (.aload_n 0, 1) := dq_42 by_20_48.1.1.1.2.2
theorem dL_law_1332 : decode cL_law 1332 = .ok (.iload 4, 2) := dq_21 by_20_48.1.1.2.1.1 by_20_48.1.1.2.1.2
theorem dL_law_1334 : decode cL_law 1334 = .ok (.iconst 1, 1) := dq_4 by_20_48.1.1.2.2.1
theorem dL_law_1335 : decode cL_law 1335 = .ok (.iadd, 1) := dq_96 by_20_48.1.1.2.2.2
theorem dL_law_1336 : decode cL_law 1336 = .ok (.iaload, 1) := dq_46 by_20_48.1.2.1.1.1
theorem dL_law_1337 : decode cL_law 1337 = .ok (.aload_n 0, 1) := dq_42 by_20_48.1.2.1.1.2
theorem dL_law_1338 : decode cL_law 1338 = .ok (.iload 4, 2) := dq_21 by_20_48.1.2.1.2.1 by_20_48.1.2.1.2.2
theorem dL_law_1340 : decode cL_law 1340 = .ok (.iconst 2, 1) := dq_5 by_20_48.1.2.2.1.1
theorem dL_law_1341 : decode cL_law 1341 = .ok (.iadd, 1) := dq_96 by_20_48.1.2.2.1.2
theorem dL_law_1342 : decode cL_law 1342 = .ok (.iaload, 1) := dq_46 by_20_48.1.2.2.2.1
theorem dL_law_1343 : decode cL_law 1343 = .ok (.aload_n 0, 1) := dq_42 by_20_48.1.2.2.2.2
theorem dL_law_1344 : decode cL_law 1344 = .ok (.iload 4, 2) := dq_21 by_21_0.1.1.1.1.1 by_21_0.1.1.1.1.2
theorem dL_law_1346 : decode cL_law 1346 = .ok (.iconst 3, 1) := dq_6 by_21_0.1.1.1.2.1
theorem dL_law_1347 : decode cL_law 1347 = .ok (.iadd, 1) := dq_96 by_21_0.1.1.1.2.2
theorem dL_law_1348 : decode cL_law 1348 = .ok (.iaload, 1) := dq_46 by_21_0.1.1.2.1.1
theorem dL_law_1349 : decode cL_law 1349 = .ok (.ifCond .eq 7, 3) := dq_153 by_21_0.1.1.2.1.2 by_21_0.1.1.2.2.1 by_21_0.1.1.2.2.2 (by decide)
theorem dL_law_1352 : decode cL_law 1352 = .ok (.iconst 1, 1) := dq_4 by_21_0.1.2.1.1.1
theorem dL_law_1353 : decode cL_law 1353 = .ok (.goto 4, 3) := dq_167 by_21_0.1.2.1.1.2 by_21_0.1.2.1.2.1 by_21_0.1.2.1.2.2 (by decide)
theorem dL_law_1356 : decode cL_law 1356 = .ok (.iconst 0, 1) := dq_3 by_21_0.1.2.2.1.1
theorem dL_law_1357 : decode cL_law 1357 = .ok (.aload_n 3, 1) := dq_45 by_21_0.1.2.2.1.2
theorem dL_law_1358 : decode cL_law 1358 = .ok (.invokestatic 284, 3) := dq_184 by_21_0.1.2.2.2.1 by_21_0.1.2.2.2.2 by_21_16.1.1.1.1.1 rfl
theorem dL_law_1361 : decode cL_law 1361 = .ok (.istore 5, 2) := dq_54 by_21_16.1.1.1.1.2 by_21_16.1.1.1.2.1
theorem dL_law_1363 : decode cL_law 1363 = .ok (.aload_n 2, 1) := dq_44 by_21_16.1.1.1.2.2
theorem dL_law_1364 : decode cL_law 1364 = .ok (.aload_n 0, 1) := dq_42 by_21_16.1.1.2.1.1
theorem dL_law_1365 : decode cL_law 1365 = .ok (.iload 4, 2) := dq_21 by_21_16.1.1.2.1.2 by_21_16.1.1.2.2.1
theorem dL_law_1367 : decode cL_law 1367 = .ok (.iconst 1, 1) := dq_4 by_21_16.1.1.2.2.2
theorem dL_law_1368 : decode cL_law 1368 = .ok (.iadd, 1) := dq_96 by_21_16.1.2.1.1.1
theorem dL_law_1369 : decode cL_law 1369 = .ok (.iaload, 1) := dq_46 by_21_16.1.2.1.1.2
theorem dL_law_1370 : decode cL_law 1370 = .ok (.aload_n 0, 1) := dq_42 by_21_16.1.2.1.2.1
theorem dL_law_1371 : decode cL_law 1371 = .ok (.iload 4, 2) := dq_21 by_21_16.1.2.1.2.2 by_21_16.1.2.2.1.1
theorem dL_law_1373 : decode cL_law 1373 = .ok (.iconst 2, 1) := dq_5 by_21_16.1.2.2.1.2
theorem dL_law_1374 : decode cL_law 1374 = .ok (.iadd, 1) := dq_96 by_21_16.1.2.2.2.1
theorem dL_law_1375 : decode cL_law 1375 = .ok (.iaload, 1) := dq_46 by_21_16.1.2.2.2.2
theorem dL_law_1376 : decode cL_law 1376 = .ok (.aload_n 0, 1) := dq_42 by_21_32.1.1.1.1.1
theorem dL_law_1377 : decode cL_law 1377 = .ok (.iload 4, 2) := dq_21 by_21_32.1.1.1.1.2 by_21_32.1.1.1.2.1
theorem dL_law_1379 : decode cL_law 1379 = .ok (.iconst 3, 1) := dq_6 by_21_32.1.1.1.2.2
theorem dL_law_1380 : decode cL_law 1380 = .ok (.iadd, 1) := dq_96 by_21_32.1.1.2.1.1
theorem dL_law_1381 : decode cL_law 1381 = .ok (.iaload, 1) := dq_46 by_21_32.1.1.2.1.2
theorem dL_law_1382 : decode cL_law 1382 = .ok (.ifCond .eq 7, 3) := dq_153 by_21_32.1.1.2.2.1 by_21_32.1.1.2.2.2 by_21_32.1.2.1.1.1 (by decide)
theorem dL_law_1385 : decode cL_law 1385 = .ok (.iconst 1, 1) := dq_4 by_21_32.1.2.1.1.2
theorem dL_law_1386 : decode cL_law 1386 = .ok (.goto 4, 3) := dq_167 by_21_32.1.2.1.2.1 by_21_32.1.2.1.2.2 by_21_32.1.2.2.1.1 (by decide)
theorem dL_law_1389 : decode cL_law 1389 = .ok (.iconst 0, 1) := dq_3 by_21_32.1.2.2.1.2
theorem dL_law_1390 : decode cL_law 1390 = .ok (.invokevirtual 286, 3) := dq_182 by_21_32.1.2.2.2.1 by_21_32.1.2.2.2.2 by_21_48.1.1.1.1.1 rfl
theorem dL_law_1393 : decode cL_law 1393 = .ok (.istore 6, 2) := dq_54 by_21_48.1.1.1.1.2 by_21_48.1.1.1.2.1
theorem dL_law_1395 : decode cL_law 1395 = .ok (.goto 1070, 3) := dq_167 by_21_48.1.1.1.2.2 by_21_48.1.1.2.1.1 by_21_48.1.1.2.1.2 (by decide)
theorem dL_law_1398 : decode cL_law 1398 = .ok (.aload_n 1, 1) := dq_43 by_21_48.1.1.2.2.1
theorem dL_law_1399 : decode cL_law 1399 = .ok (.aload_n 0, 1) := dq_42 by_21_48.1.1.2.2.2
theorem dL_law_1400 : decode cL_law 1400 = .ok (.iload 4, 2) := dq_21 by_21_48.1.2.1.1.1 by_21_48.1.2.1.1.2
theorem dL_law_1402 : decode cL_law 1402 = .ok (.iconst 1, 1) := dq_4 by_21_48.1.2.1.2.1
theorem dL_law_1403 : decode cL_law 1403 = .ok (.iadd, 1) := dq_96 by_21_48.1.2.1.2.2
theorem dL_law_1404 : decode cL_law 1404 = .ok (.iaload, 1) := dq_46 by_21_48.1.2.2.1.1
theorem dL_law_1405 : decode cL_law 1405 = .ok (.aload_n 0, 1) := dq_42 by_21_48.1.2.2.1.2
theorem dL_law_1406 : decode cL_law 1406 = .ok (.iload 4, 2) := dq_21 by_21_48.1.2.2.2.1 by_21_48.1.2.2.2.2
theorem dL_law_1408 : decode cL_law 1408 = .ok (.iconst 2, 1) := dq_5 by_22_0.1.1.1.1.1
theorem dL_law_1409 : decode cL_law 1409 = .ok (.iadd, 1) := dq_96 by_22_0.1.1.1.1.2
theorem dL_law_1410 : decode cL_law 1410 = .ok (.iaload, 1) := dq_46 by_22_0.1.1.1.2.1
theorem dL_law_1411 : decode cL_law 1411 = .ok (.invokevirtual 287, 3) := dq_182 by_22_0.1.1.1.2.2 by_22_0.1.1.2.1.1 by_22_0.1.1.2.1.2 rfl
theorem dL_law_1414 : decode cL_law 1414 = .ok (.pop, 1) := dq_87 by_22_0.1.1.2.2.1
theorem dL_law_1415 : decode cL_law 1415 = .ok (.aload_n 2, 1) := dq_44 by_22_0.1.1.2.2.2
theorem dL_law_1416 : decode cL_law 1416 = .ok (.aload_n 0, 1) := dq_42 by_22_0.1.2.1.1.1
theorem dL_law_1417 : decode cL_law 1417 = .ok (.iload 4, 2) := dq_21 by_22_0.1.2.1.1.2 by_22_0.1.2.1.2.1
theorem dL_law_1419 : decode cL_law 1419 = .ok (.iconst 1, 1) := dq_4 by_22_0.1.2.1.2.2
theorem dL_law_1420 : decode cL_law 1420 = .ok (.iadd, 1) := dq_96 by_22_0.1.2.2.1.1
theorem dL_law_1421 : decode cL_law 1421 = .ok (.iaload, 1) := dq_46 by_22_0.1.2.2.1.2
theorem dL_law_1422 : decode cL_law 1422 = .ok (.aload_n 0, 1) := dq_42 by_22_0.1.2.2.2.1
theorem dL_law_1423 : decode cL_law 1423 = .ok (.iload 4, 2) := dq_21 by_22_0.1.2.2.2.2 by_22_16.1.1.1.1.1
theorem dL_law_1425 : decode cL_law 1425 = .ok (.iconst 2, 1) := dq_5 by_22_16.1.1.1.1.2
theorem dL_law_1426 : decode cL_law 1426 = .ok (.iadd, 1) := dq_96 by_22_16.1.1.1.2.1
theorem dL_law_1427 : decode cL_law 1427 = .ok (.iaload, 1) := dq_46 by_22_16.1.1.1.2.2
theorem dL_law_1428 : decode cL_law 1428 = .ok (.invokevirtual 290, 3) := dq_182 by_22_16.1.1.2.1.1 by_22_16.1.1.2.1.2 by_22_16.1.1.2.2.1 rfl
theorem dL_law_1431 : decode cL_law 1431 = .ok (.pop, 1) := dq_87 by_22_16.1.1.2.2.2
theorem dL_law_1432 : decode cL_law 1432 = .ok (.goto 1033, 3) := dq_167 by_22_16.1.2.1.1.1 by_22_16.1.2.1.1.2 by_22_16.1.2.1.2.1 (by decide)
theorem dL_law_1435 : decode cL_law 1435 = .ok (.aload_n 1, 1) := dq_43 by_22_16.1.2.1.2.2
theorem dL_law_1436 : decode cL_law 1436 = .ok (.aload_n 0, 1) := dq_42 by_22_16.1.2.2.1.1
theorem dL_law_1437 : decode cL_law 1437 = .ok (.iload 4, 2) := dq_21 by_22_16.1.2.2.1.2 by_22_16.1.2.2.2.1
theorem dL_law_1439 : decode cL_law 1439 = .ok (.iconst 1, 1) := dq_4 by_22_16.1.2.2.2.2
theorem dL_law_1440 : decode cL_law 1440 = .ok (.iadd, 1) := dq_96 by_22_32.1.1.1.1.1
theorem dL_law_1441 : decode cL_law 1441 = .ok (.iaload, 1) := dq_46 by_22_32.1.1.1.1.2
theorem dL_law_1442 : decode cL_law 1442 = .ok (.aload_n 3, 1) := dq_45 by_22_32.1.1.1.2.1
theorem dL_law_1443 : decode cL_law 1443 = .ok (.invokestatic 291, 3) := dq_184 by_22_32.1.1.1.2.2 by_22_32.1.1.2.1.1 by_22_32.1.1.2.1.2 rfl
theorem dL_law_1446 : decode cL_law 1446 = .ok (.istore 5, 2) := dq_54 by_22_32.1.1.2.2.1 by_22_32.1.1.2.2.2
theorem dL_law_1448 : decode cL_law 1448 = .ok (.aload_n 2, 1) := dq_44 by_22_32.1.2.1.1.1
theorem dL_law_1449 : decode cL_law 1449 = .ok (.aload_n 0, 1) := dq_42 by_22_32.1.2.1.1.2
theorem dL_law_1450 : decode cL_law 1450 = .ok (.iload 4, 2) := dq_21 by_22_32.1.2.1.2.1 by_22_32.1.2.1.2.2
theorem dL_law_1452 : decode cL_law 1452 = .ok (.iconst 1, 1) := dq_4 by_22_32.1.2.2.1.1
theorem dL_law_1453 : decode cL_law 1453 = .ok (.iadd, 1) := dq_96 by_22_32.1.2.2.1.2
theorem dL_law_1454 : decode cL_law 1454 = .ok (.iaload, 1) := dq_46 by_22_32.1.2.2.2.1
theorem dL_law_1455 : decode cL_law 1455 = .ok (.invokevirtual 293, 3) := dq_182 by_22_32.1.2.2.2.2 by_22_48.1.1.1.1.1 by_22_48.1.1.1.1.2 rfl
theorem dL_law_1458 : decode cL_law 1458 = .ok (.istore 6, 2) := dq_54 by_22_48.1.1.1.2.1 by_22_48.1.1.1.2.2
theorem dL_law_1460 : decode cL_law 1460 = .ok (.goto 1005, 3) := dq_167 by_22_48.1.1.2.1.1 by_22_48.1.1.2.1.2 by_22_48.1.1.2.2.1 (by decide)
theorem dL_law_1463 : decode cL_law 1463 = .ok (.aload_n 1, 1) := dq_43 by_22_48.1.1.2.2.2
theorem dL_law_1464 : decode cL_law 1464 = .ok (.aload_n 0, 1) := dq_42 by_22_48.1.2.1.1.1
theorem dL_law_1465 : decode cL_law 1465 = .ok (.iload 4, 2) := dq_21 by_22_48.1.2.1.1.2 by_22_48.1.2.1.2.1
theorem dL_law_1467 : decode cL_law 1467 = .ok (.iconst 1, 1) := dq_4 by_22_48.1.2.1.2.2
theorem dL_law_1468 : decode cL_law 1468 = .ok (.iadd, 1) := dq_96 by_22_48.1.2.2.1.1
theorem dL_law_1469 : decode cL_law 1469 = .ok (.iaload, 1) := dq_46 by_22_48.1.2.2.1.2
theorem dL_law_1470 : decode cL_law 1470 = .ok (.aload_n 0, 1) := dq_42 by_22_48.1.2.2.2.1
theorem dL_law_1471 : decode cL_law 1471 = .ok (.iload 4, 2) := dq_21 by_22_48.1.2.2.2.2 by_23_0.1.1.1.1.1
theorem dL_law_1473 : decode cL_law 1473 = .ok (.iconst 2, 1) := dq_5 by_23_0.1.1.1.1.2
theorem dL_law_1474 : decode cL_law 1474 = .ok (.iadd, 1) := dq_96 by_23_0.1.1.1.2.1
theorem dL_law_1475 : decode cL_law 1475 = .ok (.iaload, 1) := dq_46 by_23_0.1.1.1.2.2
theorem dL_law_1476 : decode cL_law 1476 = .ok (.aload_n 3, 1) := dq_45 by_23_0.1.1.2.1.1
theorem dL_law_1477 : decode cL_law 1477 = .ok (.invokestatic 294, 3) := dq_184 by_23_0.1.1.2.1.2 by_23_0.1.1.2.2.1 by_23_0.1.1.2.2.2 rfl
theorem dL_law_1480 : decode cL_law 1480 = .ok (.istore 5, 2) := dq_54 by_23_0.1.2.1.1.1 by_23_0.1.2.1.1.2
theorem dL_law_1482 : decode cL_law 1482 = .ok (.aload_n 2, 1) := dq_44 by_23_0.1.2.1.2.1
theorem dL_law_1483 : decode cL_law 1483 = .ok (.aload_n 0, 1) := dq_42 by_23_0.1.2.1.2.2
theorem dL_law_1484 : decode cL_law 1484 = .ok (.iload 4, 2) := dq_21 by_23_0.1.2.2.1.1 by_23_0.1.2.2.1.2
theorem dL_law_1486 : decode cL_law 1486 = .ok (.iconst 1, 1) := dq_4 by_23_0.1.2.2.2.1
theorem dL_law_1487 : decode cL_law 1487 = .ok (.iadd, 1) := dq_96 by_23_0.1.2.2.2.2
theorem dL_law_1488 : decode cL_law 1488 = .ok (.iaload, 1) := dq_46 by_23_16.1.1.1.1.1
theorem dL_law_1489 : decode cL_law 1489 = .ok (.aload_n 0, 1) := dq_42 by_23_16.1.1.1.1.2
theorem dL_law_1490 : decode cL_law 1490 = .ok (.iload 4, 2) := dq_21 by_23_16.1.1.1.2.1 by_23_16.1.1.1.2.2
theorem dL_law_1492 : decode cL_law 1492 = .ok (.iconst 2, 1) := dq_5 by_23_16.1.1.2.1.1
theorem dL_law_1493 : decode cL_law 1493 = .ok (.iadd, 1) := dq_96 by_23_16.1.1.2.1.2
theorem dL_law_1494 : decode cL_law 1494 = .ok (.iaload, 1) := dq_46 by_23_16.1.1.2.2.1
theorem dL_law_1495 : decode cL_law 1495 = .ok (.invokevirtual 296, 3) := dq_182 by_23_16.1.1.2.2.2 by_23_16.1.2.1.1.1 by_23_16.1.2.1.1.2 rfl
theorem dL_law_1498 : decode cL_law 1498 = .ok (.istore 6, 2) := dq_54 by_23_16.1.2.1.2.1 by_23_16.1.2.1.2.2
theorem dL_law_1500 : decode cL_law 1500 = .ok (.goto 965, 3) := dq_167 by_23_16.1.2.2.1.1 by_23_16.1.2.2.1.2 by_23_16.1.2.2.2.1 (by decide)
theorem dL_law_1503 : decode cL_law 1503 = .ok (.aload_n 1, 1) := dq_43 by_23_16.1.2.2.2.2
theorem dL_law_1504 : decode cL_law 1504 = .ok (.aload_n 0, 1) := dq_42 by_23_32.1.1.1.1.1
theorem dL_law_1505 : decode cL_law 1505 = .ok (.iload 4, 2) := dq_21 by_23_32.1.1.1.1.2 by_23_32.1.1.1.2.1
theorem dL_law_1507 : decode cL_law 1507 = .ok (.iconst 1, 1) := dq_4 by_23_32.1.1.1.2.2
theorem dL_law_1508 : decode cL_law 1508 = .ok (.iadd, 1) := dq_96 by_23_32.1.1.2.1.1
theorem dL_law_1509 : decode cL_law 1509 = .ok (.iaload, 1) := dq_46 by_23_32.1.1.2.1.2
theorem dL_law_1510 : decode cL_law 1510 = .ok (.aload_n 0, 1) := dq_42 by_23_32.1.1.2.2.1
theorem dL_law_1511 : decode cL_law 1511 = .ok (.iload 4, 2) := dq_21 by_23_32.1.1.2.2.2 by_23_32.1.2.1.1.1
theorem dL_law_1513 : decode cL_law 1513 = .ok (.iconst 2, 1) := dq_5 by_23_32.1.2.1.1.2
theorem dL_law_1514 : decode cL_law 1514 = .ok (.iadd, 1) := dq_96 by_23_32.1.2.1.2.1
theorem dL_law_1515 : decode cL_law 1515 = .ok (.iaload, 1) := dq_46 by_23_32.1.2.1.2.2
theorem dL_law_1516 : decode cL_law 1516 = .ok (.aload_n 3, 1) := dq_45 by_23_32.1.2.2.1.1
theorem dL_law_1517 : decode cL_law 1517 = .ok (.invokestatic 297, 3) := dq_184 by_23_32.1.2.2.1.2 by_23_32.1.2.2.2.1 by_23_32.1.2.2.2.2 rfl
theorem dL_law_1520 : decode cL_law 1520 = .ok (.istore 5, 2) := dq_54 by_23_48.1.1.1.1.1 by_23_48.1.1.1.1.2
theorem dL_law_1522 : decode cL_law 1522 = .ok (.aload_n 2, 1) := dq_44 by_23_48.1.1.1.2.1
theorem dL_law_1523 : decode cL_law 1523 = .ok (.aload_n 0, 1) := dq_42 by_23_48.1.1.1.2.2
theorem dL_law_1524 : decode cL_law 1524 = .ok (.iload 4, 2) := dq_21 by_23_48.1.1.2.1.1 by_23_48.1.1.2.1.2
theorem dL_law_1526 : decode cL_law 1526 = .ok (.iconst 1, 1) := dq_4 by_23_48.1.1.2.2.1
theorem dL_law_1527 : decode cL_law 1527 = .ok (.iadd, 1) := dq_96 by_23_48.1.1.2.2.2
theorem dL_law_1528 : decode cL_law 1528 = .ok (.iaload, 1) := dq_46 by_23_48.1.2.1.1.1
theorem dL_law_1529 : decode cL_law 1529 = .ok (.aload_n 0, 1) := dq_42 by_23_48.1.2.1.1.2
theorem dL_law_1530 : decode cL_law 1530 = .ok (.iload 4, 2) := dq_21 by_23_48.1.2.1.2.1 by_23_48.1.2.1.2.2
theorem dL_law_1532 : decode cL_law 1532 = .ok (.iconst 2, 1) := dq_5 by_23_48.1.2.2.1.1
theorem dL_law_1533 : decode cL_law 1533 = .ok (.iadd, 1) := dq_96 by_23_48.1.2.2.1.2
theorem dL_law_1534 : decode cL_law 1534 = .ok (.iaload, 1) := dq_46 by_23_48.1.2.2.2.1
theorem dL_law_1535 : decode cL_law 1535 = .ok (.invokevirtual 299, 3) := dq_182 by_23_48.1.2.2.2.2 by_24_0.1.1.1.1.1 by_24_0.1.1.1.1.2 rfl
theorem dL_law_1538 : decode cL_law 1538 = .ok (.istore 6, 2) := dq_54 by_24_0.1.1.1.2.1 by_24_0.1.1.1.2.2
theorem dL_law_1540 : decode cL_law 1540 = .ok (.goto 925, 3) := dq_167 by_24_0.1.1.2.1.1 by_24_0.1.1.2.1.2 by_24_0.1.1.2.2.1 (by decide)
theorem dL_law_1543 : decode cL_law 1543 = .ok (.aload_n 1, 1) := dq_43 by_24_0.1.1.2.2.2
theorem dL_law_1544 : decode cL_law 1544 = .ok (.aload_n 0, 1) := dq_42 by_24_0.1.2.1.1.1
theorem dL_law_1545 : decode cL_law 1545 = .ok (.iload 4, 2) := dq_21 by_24_0.1.2.1.1.2 by_24_0.1.2.1.2.1
theorem dL_law_1547 : decode cL_law 1547 = .ok (.iconst 1, 1) := dq_4 by_24_0.1.2.1.2.2
theorem dL_law_1548 : decode cL_law 1548 = .ok (.iadd, 1) := dq_96 by_24_0.1.2.2.1.1
theorem dL_law_1549 : decode cL_law 1549 = .ok (.iaload, 1) := dq_46 by_24_0.1.2.2.1.2
theorem dL_law_1550 : decode cL_law 1550 = .ok (.aload_n 0, 1) := dq_42 by_24_0.1.2.2.2.1
theorem dL_law_1551 : decode cL_law 1551 = .ok (.iload 4, 2) := dq_21 by_24_0.1.2.2.2.2 by_24_16.1.1.1.1.1
theorem dL_law_1553 : decode cL_law 1553 = .ok (.iconst 2, 1) := dq_5 by_24_16.1.1.1.1.2
theorem dL_law_1554 : decode cL_law 1554 = .ok (.iadd, 1) := dq_96 by_24_16.1.1.1.2.1
theorem dL_law_1555 : decode cL_law 1555 = .ok (.iaload, 1) := dq_46 by_24_16.1.1.1.2.2
theorem dL_law_1556 : decode cL_law 1556 = .ok (.aload_n 0, 1) := dq_42 by_24_16.1.1.2.1.1
theorem dL_law_1557 : decode cL_law 1557 = .ok (.iload 4, 2) := dq_21 by_24_16.1.1.2.1.2 by_24_16.1.1.2.2.1
theorem dL_law_1559 : decode cL_law 1559 = .ok (.iconst 3, 1) := dq_6 by_24_16.1.1.2.2.2
theorem dL_law_1560 : decode cL_law 1560 = .ok (.iadd, 1) := dq_96 by_24_16.1.2.1.1.1
theorem dL_law_1561 : decode cL_law 1561 = .ok (.iaload, 1) := dq_46 by_24_16.1.2.1.1.2
theorem dL_law_1562 : decode cL_law 1562 = .ok (.aload_n 3, 1) := dq_45 by_24_16.1.2.1.2.1
theorem dL_law_1563 : decode cL_law 1563 = .ok (.invokestatic 300, 3) := dq_184 by_24_16.1.2.1.2.2 by_24_16.1.2.2.1.1 by_24_16.1.2.2.1.2 rfl
theorem dL_law_1566 : decode cL_law 1566 = .ok (.istore 5, 2) := dq_54 by_24_16.1.2.2.2.1 by_24_16.1.2.2.2.2
theorem dL_law_1568 : decode cL_law 1568 = .ok (.aload_n 2, 1) := dq_44 by_24_32.1.1.1.1.1
theorem dL_law_1569 : decode cL_law 1569 = .ok (.aload_n 0, 1) := dq_42 by_24_32.1.1.1.1.2
theorem dL_law_1570 : decode cL_law 1570 = .ok (.iload 4, 2) := dq_21 by_24_32.1.1.1.2.1 by_24_32.1.1.1.2.2
theorem dL_law_1572 : decode cL_law 1572 = .ok (.iconst 1, 1) := dq_4 by_24_32.1.1.2.1.1
theorem dL_law_1573 : decode cL_law 1573 = .ok (.iadd, 1) := dq_96 by_24_32.1.1.2.1.2
theorem dL_law_1574 : decode cL_law 1574 = .ok (.iaload, 1) := dq_46 by_24_32.1.1.2.2.1
theorem dL_law_1575 : decode cL_law 1575 = .ok (.aload_n 0, 1) := dq_42 by_24_32.1.1.2.2.2
theorem dL_law_1576 : decode cL_law 1576 = .ok (.iload 4, 2) := dq_21 by_24_32.1.2.1.1.1 by_24_32.1.2.1.1.2
theorem dL_law_1578 : decode cL_law 1578 = .ok (.iconst 2, 1) := dq_5 by_24_32.1.2.1.2.1
theorem dL_law_1579 : decode cL_law 1579 = .ok (.iadd, 1) := dq_96 by_24_32.1.2.1.2.2
theorem dL_law_1580 : decode cL_law 1580 = .ok (.iaload, 1) := dq_46 by_24_32.1.2.2.1.1
theorem dL_law_1581 : decode cL_law 1581 = .ok (.aload_n 0, 1) := dq_42 by_24_32.1.2.2.1.2
theorem dL_law_1582 : decode cL_law 1582 = .ok (.iload 4, 2) := dq_21 by_24_32.1.2.2.2.1 by_24_32.1.2.2.2.2
theorem dL_law_1584 : decode cL_law 1584 = .ok (.iconst 3, 1) := dq_6 by_24_48.1.1.1.1.1
theorem dL_law_1585 : decode cL_law 1585 = .ok (.iadd, 1) := dq_96 by_24_48.1.1.1.1.2
theorem dL_law_1586 : decode cL_law 1586 = .ok (.iaload, 1) := dq_46 by_24_48.1.1.1.2.1
theorem dL_law_1587 : decode cL_law 1587 = .ok (.invokevirtual 302, 3) := dq_182 by_24_48.1.1.1.2.2 by_24_48.1.1.2.1.1 by_24_48.1.1.2.1.2 rfl
theorem dL_law_1590 : decode cL_law 1590 = .ok (.istore 6, 2) := dq_54 by_24_48.1.1.2.2.1 by_24_48.1.1.2.2.2
theorem dL_law_1592 : decode cL_law 1592 = .ok (.goto 873, 3) := dq_167 by_24_48.1.2.1.1.1 by_24_48.1.2.1.1.2 by_24_48.1.2.1.2.1 (by decide)
theorem dL_law_1595 : decode cL_law 1595 = .ok (.aload_n 1, 1) := dq_43 by_24_48.1.2.1.2.2
theorem dL_law_1596 : decode cL_law 1596 = .ok (.aload_n 0, 1) := dq_42 by_24_48.1.2.2.1.1
theorem dL_law_1597 : decode cL_law 1597 = .ok (.iload 4, 2) := dq_21 by_24_48.1.2.2.1.2 by_24_48.1.2.2.2.1
theorem dL_law_1599 : decode cL_law 1599 = .ok (.iconst 1, 1) := dq_4 by_24_48.1.2.2.2.2
theorem dL_law_1600 : decode cL_law 1600 = .ok (.iadd, 1) := dq_96 by_25_0.1.1.1.1.1
theorem dL_law_1601 : decode cL_law 1601 = .ok (.iaload, 1) := dq_46 by_25_0.1.1.1.1.2
theorem dL_law_1602 : decode cL_law 1602 = .ok (.aload_n 0, 1) := dq_42 by_25_0.1.1.1.2.1
theorem dL_law_1603 : decode cL_law 1603 = .ok (.iload 4, 2) := dq_21 by_25_0.1.1.1.2.2 by_25_0.1.1.2.1.1
theorem dL_law_1605 : decode cL_law 1605 = .ok (.iconst 2, 1) := dq_5 by_25_0.1.1.2.1.2
theorem dL_law_1606 : decode cL_law 1606 = .ok (.iadd, 1) := dq_96 by_25_0.1.1.2.2.1
theorem dL_law_1607 : decode cL_law 1607 = .ok (.iaload, 1) := dq_46 by_25_0.1.1.2.2.2
theorem dL_law_1608 : decode cL_law 1608 = .ok (.aload_n 3, 1) := dq_45 by_25_0.1.2.1.1.1
theorem dL_law_1609 : decode cL_law 1609 = .ok (.invokestatic 303, 3) := dq_184 by_25_0.1.2.1.1.2 by_25_0.1.2.1.2.1 by_25_0.1.2.1.2.2 rfl
theorem dL_law_1612 : decode cL_law 1612 = .ok (.istore 5, 2) := dq_54 by_25_0.1.2.2.1.1 by_25_0.1.2.2.1.2
theorem dL_law_1614 : decode cL_law 1614 = .ok (.aload_n 2, 1) := dq_44 by_25_0.1.2.2.2.1
theorem dL_law_1615 : decode cL_law 1615 = .ok (.aload_n 0, 1) := dq_42 by_25_0.1.2.2.2.2
theorem dL_law_1616 : decode cL_law 1616 = .ok (.iload 4, 2) := dq_21 by_25_16.1.1.1.1.1 by_25_16.1.1.1.1.2
theorem dL_law_1618 : decode cL_law 1618 = .ok (.iconst 1, 1) := dq_4 by_25_16.1.1.1.2.1
theorem dL_law_1619 : decode cL_law 1619 = .ok (.iadd, 1) := dq_96 by_25_16.1.1.1.2.2
theorem dL_law_1620 : decode cL_law 1620 = .ok (.iaload, 1) := dq_46 by_25_16.1.1.2.1.1
theorem dL_law_1621 : decode cL_law 1621 = .ok (.aload_n 0, 1) := dq_42 by_25_16.1.1.2.1.2
theorem dL_law_1622 : decode cL_law 1622 = .ok (.iload 4, 2) := dq_21 by_25_16.1.1.2.2.1 by_25_16.1.1.2.2.2
theorem dL_law_1624 : decode cL_law 1624 = .ok (.iconst 2, 1) := dq_5 by_25_16.1.2.1.1.1
theorem dL_law_1625 : decode cL_law 1625 = .ok (.iadd, 1) := dq_96 by_25_16.1.2.1.1.2
theorem dL_law_1626 : decode cL_law 1626 = .ok (.iaload, 1) := dq_46 by_25_16.1.2.1.2.1
theorem dL_law_1627 : decode cL_law 1627 = .ok (.invokevirtual 305, 3) := dq_182 by_25_16.1.2.1.2.2 by_25_16.1.2.2.1.1 by_25_16.1.2.2.1.2 rfl
theorem dL_law_1630 : decode cL_law 1630 = .ok (.istore 6, 2) := dq_54 by_25_16.1.2.2.2.1 by_25_16.1.2.2.2.2
theorem dL_law_1632 : decode cL_law 1632 = .ok (.goto 833, 3) := dq_167 by_25_32.1.1.1.1.1 by_25_32.1.1.1.1.2 by_25_32.1.1.1.2.1 (by decide)
theorem dL_law_1635 : decode cL_law 1635 = .ok (.aload_n 1, 1) := dq_43 by_25_32.1.1.1.2.2
theorem dL_law_1636 : decode cL_law 1636 = .ok (.aload_n 0, 1) := dq_42 by_25_32.1.1.2.1.1
theorem dL_law_1637 : decode cL_law 1637 = .ok (.iload 4, 2) := dq_21 by_25_32.1.1.2.1.2 by_25_32.1.1.2.2.1
theorem dL_law_1639 : decode cL_law 1639 = .ok (.iconst 1, 1) := dq_4 by_25_32.1.1.2.2.2
theorem dL_law_1640 : decode cL_law 1640 = .ok (.iadd, 1) := dq_96 by_25_32.1.2.1.1.1
theorem dL_law_1641 : decode cL_law 1641 = .ok (.iaload, 1) := dq_46 by_25_32.1.2.1.1.2
theorem dL_law_1642 : decode cL_law 1642 = .ok (.aload_n 3, 1) := dq_45 by_25_32.1.2.1.2.1
theorem dL_law_1643 : decode cL_law 1643 = .ok (.invokestatic 306, 3) := dq_184 by_25_32.1.2.1.2.2 by_25_32.1.2.2.1.1 by_25_32.1.2.2.1.2 rfl
theorem dL_law_1646 : decode cL_law 1646 = .ok (.istore 5, 2) := dq_54 by_25_32.1.2.2.2.1 by_25_32.1.2.2.2.2
theorem dL_law_1648 : decode cL_law 1648 = .ok (.aload_n 2, 1) := dq_44 by_25_48.1.1.1.1.1
theorem dL_law_1649 : decode cL_law 1649 = .ok (.aload_n 0, 1) := dq_42 by_25_48.1.1.1.1.2
theorem dL_law_1650 : decode cL_law 1650 = .ok (.iload 4, 2) := dq_21 by_25_48.1.1.1.2.1 by_25_48.1.1.1.2.2
theorem dL_law_1652 : decode cL_law 1652 = .ok (.iconst 1, 1) := dq_4 by_25_48.1.1.2.1.1
theorem dL_law_1653 : decode cL_law 1653 = .ok (.iadd, 1) := dq_96 by_25_48.1.1.2.1.2
theorem dL_law_1654 : decode cL_law 1654 = .ok (.iaload, 1) := dq_46 by_25_48.1.1.2.2.1
theorem dL_law_1655 : decode cL_law 1655 = .ok (.invokevirtual 308, 3) := dq_182 by_25_48.1.1.2.2.2 by_25_48.1.2.1.1.1 by_25_48.1.2.1.1.2 rfl
theorem dL_law_1658 : decode cL_law 1658 = .ok (.astore 6, 2) := dq_58 by_25_48.1.2.1.2.1 by_25_48.1.2.1.2.2
theorem dL_law_1660 : decode cL_law 1660 = .ok (.goto 805, 3) := dq_167 by_25_48.1.2.2.1.1 by_25_48.1.2.2.1.2 by_25_48.1.2.2.2.1 (by decide)
theorem dL_law_1663 : decode cL_law 1663 = .ok (.aload_n 1, 1) := dq_43 by_25_48.1.2.2.2.2
theorem dL_law_1664 : decode cL_law 1664 = .ok (.aload_n 0, 1) := dq_42 by_26_0.1.1.1.1.1
theorem dL_law_1665 : decode cL_law 1665 = .ok (.iload 4, 2) := dq_21 by_26_0.1.1.1.1.2 by_26_0.1.1.1.2.1
theorem dL_law_1667 : decode cL_law 1667 = .ok (.iconst 1, 1) := dq_4 by_26_0.1.1.1.2.2
theorem dL_law_1668 : decode cL_law 1668 = .ok (.iadd, 1) := dq_96 by_26_0.1.1.2.1.1
theorem dL_law_1669 : decode cL_law 1669 = .ok (.iaload, 1) := dq_46 by_26_0.1.1.2.1.2
theorem dL_law_1670 : decode cL_law 1670 = .ok (.aload_n 3, 1) := dq_45 by_26_0.1.1.2.2.1
theorem dL_law_1671 : decode cL_law 1671 = .ok (.invokestatic 309, 3) := dq_184 by_26_0.1.1.2.2.2 by_26_0.1.2.1.1.1 by_26_0.1.2.1.1.2 rfl
theorem dL_law_1674 : decode cL_law 1674 = .ok (.istore 5, 2) := dq_54 by_26_0.1.2.1.2.1 by_26_0.1.2.1.2.2
theorem dL_law_1676 : decode cL_law 1676 = .ok (.aload_n 2, 1) := dq_44 by_26_0.1.2.2.1.1
theorem dL_law_1677 : decode cL_law 1677 = .ok (.aload_n 0, 1) := dq_42 by_26_0.1.2.2.1.2
theorem dL_law_1678 : decode cL_law 1678 = .ok (.iload 4, 2) := dq_21 by_26_0.1.2.2.2.1 by_26_0.1.2.2.2.2
theorem dL_law_1680 : decode cL_law 1680 = .ok (.iconst 1, 1) := dq_4 by_26_16.1.1.1.1.1
theorem dL_law_1681 : decode cL_law 1681 = .ok (.iadd, 1) := dq_96 by_26_16.1.1.1.1.2
theorem dL_law_1682 : decode cL_law 1682 = .ok (.iaload, 1) := dq_46 by_26_16.1.1.1.2.1
theorem dL_law_1683 : decode cL_law 1683 = .ok (.invokevirtual 311, 3) := dq_182 by_26_16.1.1.1.2.2 by_26_16.1.1.2.1.1 by_26_16.1.1.2.1.2 rfl
theorem dL_law_1686 : decode cL_law 1686 = .ok (.astore 6, 2) := dq_58 by_26_16.1.1.2.2.1 by_26_16.1.1.2.2.2
theorem dL_law_1688 : decode cL_law 1688 = .ok (.goto 777, 3) := dq_167 by_26_16.1.2.1.1.1 by_26_16.1.2.1.1.2 by_26_16.1.2.1.2.1 (by decide)
theorem dL_law_1691 : decode cL_law 1691 = .ok (.aload_n 1, 1) := dq_43 by_26_16.1.2.1.2.2
theorem dL_law_1692 : decode cL_law 1692 = .ok (.aload_n 0, 1) := dq_42 by_26_16.1.2.2.1.1
theorem dL_law_1693 : decode cL_law 1693 = .ok (.iload 4, 2) := dq_21 by_26_16.1.2.2.1.2 by_26_16.1.2.2.2.1
theorem dL_law_1695 : decode cL_law 1695 = .ok (.iconst 1, 1) := dq_4 by_26_16.1.2.2.2.2
theorem dL_law_1696 : decode cL_law 1696 = .ok (.iadd, 1) := dq_96 by_26_32.1.1.1.1.1
theorem dL_law_1697 : decode cL_law 1697 = .ok (.iaload, 1) := dq_46 by_26_32.1.1.1.1.2
theorem dL_law_1698 : decode cL_law 1698 = .ok (.aload_n 0, 1) := dq_42 by_26_32.1.1.1.2.1
theorem dL_law_1699 : decode cL_law 1699 = .ok (.iload 4, 2) := dq_21 by_26_32.1.1.1.2.2 by_26_32.1.1.2.1.1
theorem dL_law_1701 : decode cL_law 1701 = .ok (.iconst 2, 1) := dq_5 by_26_32.1.1.2.1.2
theorem dL_law_1702 : decode cL_law 1702 = .ok (.iadd, 1) := dq_96 by_26_32.1.1.2.2.1
theorem dL_law_1703 : decode cL_law 1703 = .ok (.iaload, 1) := dq_46 by_26_32.1.1.2.2.2
theorem dL_law_1704 : decode cL_law 1704 = .ok (.aload_n 3, 1) := dq_45 by_26_32.1.2.1.1.1
theorem dL_law_1705 : decode cL_law 1705 = .ok (.invokestatic 312, 3) := dq_184 by_26_32.1.2.1.1.2 by_26_32.1.2.1.2.1 by_26_32.1.2.1.2.2 rfl
theorem dL_law_1708 : decode cL_law 1708 = .ok (.istore 5, 2) := dq_54 by_26_32.1.2.2.1.1 by_26_32.1.2.2.1.2
theorem dL_law_1710 : decode cL_law 1710 = .ok (.aload_n 2, 1) := dq_44 by_26_32.1.2.2.2.1
theorem dL_law_1711 : decode cL_law 1711 = .ok (.aload_n 0, 1) := dq_42 by_26_32.1.2.2.2.2
theorem dL_law_1712 : decode cL_law 1712 = .ok (.iload 4, 2) := dq_21 by_26_48.1.1.1.1.1 by_26_48.1.1.1.1.2
theorem dL_law_1714 : decode cL_law 1714 = .ok (.iconst 1, 1) := dq_4 by_26_48.1.1.1.2.1
theorem dL_law_1715 : decode cL_law 1715 = .ok (.iadd, 1) := dq_96 by_26_48.1.1.1.2.2
theorem dL_law_1716 : decode cL_law 1716 = .ok (.iaload, 1) := dq_46 by_26_48.1.1.2.1.1
theorem dL_law_1717 : decode cL_law 1717 = .ok (.aload_n 0, 1) := dq_42 by_26_48.1.1.2.1.2
theorem dL_law_1718 : decode cL_law 1718 = .ok (.iload 4, 2) := dq_21 by_26_48.1.1.2.2.1 by_26_48.1.1.2.2.2
theorem dL_law_1720 : decode cL_law 1720 = .ok (.iconst 2, 1) := dq_5 by_26_48.1.2.1.1.1
theorem dL_law_1721 : decode cL_law 1721 = .ok (.iadd, 1) := dq_96 by_26_48.1.2.1.1.2
theorem dL_law_1722 : decode cL_law 1722 = .ok (.iaload, 1) := dq_46 by_26_48.1.2.1.2.1
theorem dL_law_1723 : decode cL_law 1723 = .ok (.invokevirtual 314, 3) := dq_182 by_26_48.1.2.1.2.2 by_26_48.1.2.2.1.1 by_26_48.1.2.2.1.2 rfl
theorem dL_law_1726 : decode cL_law 1726 = .ok (.istore 6, 2) := dq_54 by_26_48.1.2.2.2.1 by_26_48.1.2.2.2.2
theorem dL_law_1728 : decode cL_law 1728 = .ok (.goto 737, 3) := dq_167 by_27_0.1.1.1.1.1 by_27_0.1.1.1.1.2 by_27_0.1.1.1.2.1 (by decide)
theorem dL_law_1731 : decode cL_law 1731 = .ok (.aload_n 1, 1) := dq_43 by_27_0.1.1.1.2.2
theorem dL_law_1732 : decode cL_law 1732 = .ok (.aload_n 0, 1) := dq_42 by_27_0.1.1.2.1.1
theorem dL_law_1733 : decode cL_law 1733 = .ok (.iload 4, 2) := dq_21 by_27_0.1.1.2.1.2 by_27_0.1.1.2.2.1
theorem dL_law_1735 : decode cL_law 1735 = .ok (.iconst 1, 1) := dq_4 by_27_0.1.1.2.2.2
theorem dL_law_1736 : decode cL_law 1736 = .ok (.iadd, 1) := dq_96 by_27_0.1.2.1.1.1
theorem dL_law_1737 : decode cL_law 1737 = .ok (.iaload, 1) := dq_46 by_27_0.1.2.1.1.2
theorem dL_law_1738 : decode cL_law 1738 = .ok (.aload_n 0, 1) := dq_42 by_27_0.1.2.1.2.1
theorem dL_law_1739 : decode cL_law 1739 = .ok (.iload 4, 2) := dq_21 by_27_0.1.2.1.2.2 by_27_0.1.2.2.1.1
theorem dL_law_1741 : decode cL_law 1741 = .ok (.iconst 2, 1) := dq_5 by_27_0.1.2.2.1.2
theorem dL_law_1742 : decode cL_law 1742 = .ok (.iadd, 1) := dq_96 by_27_0.1.2.2.2.1
theorem dL_law_1743 : decode cL_law 1743 = .ok (.iaload, 1) := dq_46 by_27_0.1.2.2.2.2
theorem dL_law_1744 : decode cL_law 1744 = .ok (.aload_n 3, 1) := dq_45 by_27_16.1.1.1.1.1
theorem dL_law_1745 : decode cL_law 1745 = .ok (.invokestatic 315, 3) := dq_184 by_27_16.1.1.1.1.2 by_27_16.1.1.1.2.1 by_27_16.1.1.1.2.2 rfl
theorem dL_law_1748 : decode cL_law 1748 = .ok (.istore 5, 2) := dq_54 by_27_16.1.1.2.1.1 by_27_16.1.1.2.1.2
theorem dL_law_1750 : decode cL_law 1750 = .ok (.aload_n 2, 1) := dq_44 by_27_16.1.1.2.2.1
theorem dL_law_1751 : decode cL_law 1751 = .ok (.aload_n 0, 1) := dq_42 by_27_16.1.1.2.2.2
theorem dL_law_1752 : decode cL_law 1752 = .ok (.iload 4, 2) := dq_21 by_27_16.1.2.1.1.1 by_27_16.1.2.1.1.2
theorem dL_law_1754 : decode cL_law 1754 = .ok (.iconst 1, 1) := dq_4 by_27_16.1.2.1.2.1
theorem dL_law_1755 : decode cL_law 1755 = .ok (.iadd, 1) := dq_96 by_27_16.1.2.1.2.2
theorem dL_law_1756 : decode cL_law 1756 = .ok (.iaload, 1) := dq_46 by_27_16.1.2.2.1.1
theorem dL_law_1757 : decode cL_law 1757 = .ok (.aload_n 0, 1) := dq_42 by_27_16.1.2.2.1.2
theorem dL_law_1758 : decode cL_law 1758 = .ok (.iload 4, 2) := dq_21 by_27_16.1.2.2.2.1 by_27_16.1.2.2.2.2
theorem dL_law_1760 : decode cL_law 1760 = .ok (.iconst 2, 1) := dq_5 by_27_32.1.1.1.1.1
theorem dL_law_1761 : decode cL_law 1761 = .ok (.iadd, 1) := dq_96 by_27_32.1.1.1.1.2
theorem dL_law_1762 : decode cL_law 1762 = .ok (.iaload, 1) := dq_46 by_27_32.1.1.1.2.1
theorem dL_law_1763 : decode cL_law 1763 = .ok (.invokevirtual 317, 3) := dq_182 by_27_32.1.1.1.2.2 by_27_32.1.1.2.1.1 by_27_32.1.1.2.1.2 rfl
theorem dL_law_1766 : decode cL_law 1766 = .ok (.istore 6, 2) := dq_54 by_27_32.1.1.2.2.1 by_27_32.1.1.2.2.2
theorem dL_law_1768 : decode cL_law 1768 = .ok (.goto 697, 3) := dq_167 by_27_32.1.2.1.1.1 by_27_32.1.2.1.1.2 by_27_32.1.2.1.2.1 (by decide)
theorem dL_law_1771 : decode cL_law 1771 = .ok (.aload_n 1, 1) := dq_43 by_27_32.1.2.1.2.2
theorem dL_law_1772 : decode cL_law 1772 = .ok (.aload_n 0, 1) := dq_42 by_27_32.1.2.2.1.1
theorem dL_law_1773 : decode cL_law 1773 = .ok (.iload 4, 2) := dq_21 by_27_32.1.2.2.1.2 by_27_32.1.2.2.2.1
theorem dL_law_1775 : decode cL_law 1775 = .ok (.iconst 1, 1) := dq_4 by_27_32.1.2.2.2.2
theorem dL_law_1776 : decode cL_law 1776 = .ok (.iadd, 1) := dq_96 by_27_48.1.1.1.1.1
theorem dL_law_1777 : decode cL_law 1777 = .ok (.iaload, 1) := dq_46 by_27_48.1.1.1.1.2
theorem dL_law_1778 : decode cL_law 1778 = .ok (.aload_n 3, 1) := dq_45 by_27_48.1.1.1.2.1
theorem dL_law_1779 : decode cL_law 1779 = .ok (.invokestatic 318, 3) := dq_184 by_27_48.1.1.1.2.2 by_27_48.1.1.2.1.1 by_27_48.1.1.2.1.2 rfl
theorem dL_law_1782 : decode cL_law 1782 = .ok (.istore 5, 2) := dq_54 by_27_48.1.1.2.2.1 by_27_48.1.1.2.2.2
theorem dL_law_1784 : decode cL_law 1784 = .ok (.aload_n 2, 1) := dq_44 by_27_48.1.2.1.1.1
theorem dL_law_1785 : decode cL_law 1785 = .ok (.aload_n 0, 1) := dq_42 by_27_48.1.2.1.1.2
theorem dL_law_1786 : decode cL_law 1786 = .ok (.iload 4, 2) := dq_21 by_27_48.1.2.1.2.1 by_27_48.1.2.1.2.2
theorem dL_law_1788 : decode cL_law 1788 = .ok (.iconst 1, 1) := dq_4 by_27_48.1.2.2.1.1
theorem dL_law_1789 : decode cL_law 1789 = .ok (.iadd, 1) := dq_96 by_27_48.1.2.2.1.2
theorem dL_law_1790 : decode cL_law 1790 = .ok (.iaload, 1) := dq_46 by_27_48.1.2.2.2.1
theorem dL_law_1791 : decode cL_law 1791 = .ok (.invokevirtual 320, 3) := dq_182 by_27_48.1.2.2.2.2 by_28_0.1.1.1.1.1 by_28_0.1.1.1.1.2 rfl
theorem dL_law_1794 : decode cL_law 1794 = .ok (.istore 6, 2) := dq_54 by_28_0.1.1.1.2.1 by_28_0.1.1.1.2.2
theorem dL_law_1796 : decode cL_law 1796 = .ok (.goto 669, 3) := dq_167 by_28_0.1.1.2.1.1 by_28_0.1.1.2.1.2 by_28_0.1.1.2.2.1 (by decide)
theorem dL_law_1799 : decode cL_law 1799 = .ok (.aload_n 1, 1) := dq_43 by_28_0.1.1.2.2.2
theorem dL_law_1800 : decode cL_law 1800 = .ok (.aload_n 0, 1) := dq_42 by_28_0.1.2.1.1.1
theorem dL_law_1801 : decode cL_law 1801 = .ok (.iload 4, 2) := dq_21 by_28_0.1.2.1.1.2 by_28_0.1.2.1.2.1
theorem dL_law_1803 : decode cL_law 1803 = .ok (.iconst 1, 1) := dq_4 by_28_0.1.2.1.2.2
theorem dL_law_1804 : decode cL_law 1804 = .ok (.iadd, 1) := dq_96 by_28_0.1.2.2.1.1
theorem dL_law_1805 : decode cL_law 1805 = .ok (.iaload, 1) := dq_46 by_28_0.1.2.2.1.2
theorem dL_law_1806 : decode cL_law 1806 = .ok (.aload_n 3, 1) := dq_45 by_28_0.1.2.2.2.1
theorem dL_law_1807 : decode cL_law 1807 = .ok (.invokestatic 321, 3) := dq_184 by_28_0.1.2.2.2.2 by_28_16.1.1.1.1.1 by_28_16.1.1.1.1.2 rfl
theorem dL_law_1810 : decode cL_law 1810 = .ok (.istore 5, 2) := dq_54 by_28_16.1.1.1.2.1 by_28_16.1.1.1.2.2
theorem dL_law_1812 : decode cL_law 1812 = .ok (.aload_n 2, 1) := dq_44 by_28_16.1.1.2.1.1
theorem dL_law_1813 : decode cL_law 1813 = .ok (.aload_n 0, 1) := dq_42 by_28_16.1.1.2.1.2
theorem dL_law_1814 : decode cL_law 1814 = .ok (.iload 4, 2) := dq_21 by_28_16.1.1.2.2.1 by_28_16.1.1.2.2.2
theorem dL_law_1816 : decode cL_law 1816 = .ok (.iconst 1, 1) := dq_4 by_28_16.1.2.1.1.1
theorem dL_law_1817 : decode cL_law 1817 = .ok (.iadd, 1) := dq_96 by_28_16.1.2.1.1.2
theorem dL_law_1818 : decode cL_law 1818 = .ok (.iaload, 1) := dq_46 by_28_16.1.2.1.2.1
theorem dL_law_1819 : decode cL_law 1819 = .ok (.invokevirtual 323, 3) := dq_182 by_28_16.1.2.1.2.2 by_28_16.1.2.2.1.1 by_28_16.1.2.2.1.2 rfl
theorem dL_law_1822 : decode cL_law 1822 = .ok (.istore 6, 2) := dq_54 by_28_16.1.2.2.2.1 by_28_16.1.2.2.2.2
theorem dL_law_1824 : decode cL_law 1824 = .ok (.goto 641, 3) := dq_167 by_28_32.1.1.1.1.1 by_28_32.1.1.1.1.2 by_28_32.1.1.1.2.1 (by decide)
theorem dL_law_1827 : decode cL_law 1827 = .ok (.aload_n 1, 1) := dq_43 by_28_32.1.1.1.2.2
theorem dL_law_1828 : decode cL_law 1828 = .ok (.aload_n 0, 1) := dq_42 by_28_32.1.1.2.1.1
theorem dL_law_1829 : decode cL_law 1829 = .ok (.iload 4, 2) := dq_21 by_28_32.1.1.2.1.2 by_28_32.1.1.2.2.1
theorem dL_law_1831 : decode cL_law 1831 = .ok (.iconst 1, 1) := dq_4 by_28_32.1.1.2.2.2
theorem dL_law_1832 : decode cL_law 1832 = .ok (.iadd, 1) := dq_96 by_28_32.1.2.1.1.1
theorem dL_law_1833 : decode cL_law 1833 = .ok (.iaload, 1) := dq_46 by_28_32.1.2.1.1.2
theorem dL_law_1834 : decode cL_law 1834 = .ok (.aload_n 0, 1) := dq_42 by_28_32.1.2.1.2.1
theorem dL_law_1835 : decode cL_law 1835 = .ok (.iload 4, 2) := dq_21 by_28_32.1.2.1.2.2 by_28_32.1.2.2.1.1
theorem dL_law_1837 : decode cL_law 1837 = .ok (.iconst 2, 1) := dq_5 by_28_32.1.2.2.1.2
theorem dL_law_1838 : decode cL_law 1838 = .ok (.iadd, 1) := dq_96 by_28_32.1.2.2.2.1
theorem dL_law_1839 : decode cL_law 1839 = .ok (.iaload, 1) := dq_46 by_28_32.1.2.2.2.2
theorem dL_law_1840 : decode cL_law 1840 = .ok (.aload_n 0, 1) := dq_42 by_28_48.1.1.1.1.1
theorem dL_law_1841 : decode cL_law 1841 = .ok (.iload 4, 2) := dq_21 by_28_48.1.1.1.1.2 by_28_48.1.1.1.2.1
theorem dL_law_1843 : decode cL_law 1843 = .ok (.iconst 3, 1) := dq_6 by_28_48.1.1.1.2.2
theorem dL_law_1844 : decode cL_law 1844 = .ok (.iadd, 1) := dq_96 by_28_48.1.1.2.1.1
theorem dL_law_1845 : decode cL_law 1845 = .ok (.iaload, 1) := dq_46 by_28_48.1.1.2.1.2
theorem dL_law_1846 : decode cL_law 1846 = .ok (.ifCond .eq 7, 3) := dq_153 by_28_48.1.1.2.2.1 by_28_48.1.1.2.2.2 by_28_48.1.2.1.1.1 (by decide)
theorem dL_law_1849 : decode cL_law 1849 = .ok (.iconst 1, 1) := dq_4 by_28_48.1.2.1.1.2
theorem dL_law_1850 : decode cL_law 1850 = .ok (.goto 4, 3) := dq_167 by_28_48.1.2.1.2.1 by_28_48.1.2.1.2.2 by_28_48.1.2.2.1.1 (by decide)
theorem dL_law_1853 : decode cL_law 1853 = .ok (.iconst 0, 1) := dq_3 by_28_48.1.2.2.1.2
theorem dL_law_1854 : decode cL_law 1854 = .ok (.aload_n 3, 1) := dq_45 by_28_48.1.2.2.2.1
theorem dL_law_1855 : decode cL_law 1855 = .ok (.invokestatic 324, 3) := dq_184 by_28_48.1.2.2.2.2 by_29_0.1.1.1.1.1 by_29_0.1.1.1.1.2 rfl
theorem dL_law_1858 : decode cL_law 1858 = .ok (.istore 5, 2) := dq_54 by_29_0.1.1.1.2.1 by_29_0.1.1.1.2.2
theorem dL_law_1860 : decode cL_law 1860 = .ok (.aload_n 2, 1) := dq_44 by_29_0.1.1.2.1.1
theorem dL_law_1861 : decode cL_law 1861 = .ok (.aload_n 0, 1) := dq_42 by_29_0.1.1.2.1.2
theorem dL_law_1862 : decode cL_law 1862 = .ok (.iload 4, 2) := dq_21 by_29_0.1.1.2.2.1 by_29_0.1.1.2.2.2
theorem dL_law_1864 : decode cL_law 1864 = .ok (.iconst 1, 1) := dq_4 by_29_0.1.2.1.1.1
theorem dL_law_1865 : decode cL_law 1865 = .ok (.iadd, 1) := dq_96 by_29_0.1.2.1.1.2
theorem dL_law_1866 : decode cL_law 1866 = .ok (.iaload, 1) := dq_46 by_29_0.1.2.1.2.1
theorem dL_law_1867 : decode cL_law 1867 = .ok (.aload_n 0, 1) := dq_42 by_29_0.1.2.1.2.2
theorem dL_law_1868 : decode cL_law 1868 = .ok (.iload 4, 2) := dq_21 by_29_0.1.2.2.1.1 by_29_0.1.2.2.1.2
theorem dL_law_1870 : decode cL_law 1870 = .ok (.iconst 2, 1) := dq_5 by_29_0.1.2.2.2.1
theorem dL_law_1871 : decode cL_law 1871 = .ok (.iadd, 1) := dq_96 by_29_0.1.2.2.2.2
theorem dL_law_1872 : decode cL_law 1872 = .ok (.iaload, 1) := dq_46 by_29_16.1.1.1.1.1
theorem dL_law_1873 : decode cL_law 1873 = .ok (.aload_n 0, 1) := dq_42 by_29_16.1.1.1.1.2
theorem dL_law_1874 : decode cL_law 1874 = .ok (.iload 4, 2) := dq_21 by_29_16.1.1.1.2.1 by_29_16.1.1.1.2.2
theorem dL_law_1876 : decode cL_law 1876 = .ok (.iconst 3, 1) := dq_6 by_29_16.1.1.2.1.1
theorem dL_law_1877 : decode cL_law 1877 = .ok (.iadd, 1) := dq_96 by_29_16.1.1.2.1.2
theorem dL_law_1878 : decode cL_law 1878 = .ok (.iaload, 1) := dq_46 by_29_16.1.1.2.2.1
theorem dL_law_1879 : decode cL_law 1879 = .ok (.ifCond .eq 7, 3) := dq_153 by_29_16.1.1.2.2.2 by_29_16.1.2.1.1.1 by_29_16.1.2.1.1.2 (by decide)
theorem dL_law_1882 : decode cL_law 1882 = .ok (.iconst 1, 1) := dq_4 by_29_16.1.2.1.2.1
theorem dL_law_1883 : decode cL_law 1883 = .ok (.goto 4, 3) := dq_167 by_29_16.1.2.1.2.2 by_29_16.1.2.2.1.1 by_29_16.1.2.2.1.2 (by decide)
theorem dL_law_1886 : decode cL_law 1886 = .ok (.iconst 0, 1) := dq_3 by_29_16.1.2.2.2.1
theorem dL_law_1887 : decode cL_law 1887 = .ok (.invokevirtual 326, 3) := dq_182 by_29_16.1.2.2.2.2 by_29_32.1.1.1.1.1 by_29_32.1.1.1.1.2 rfl
theorem dL_law_1890 : decode cL_law 1890 = .ok (.istore 6, 2) := dq_54 by_29_32.1.1.1.2.1 by_29_32.1.1.1.2.2
theorem dL_law_1892 : decode cL_law 1892 = .ok (.goto 573, 3) := dq_167 by_29_32.1.1.2.1.1 by_29_32.1.1.2.1.2 by_29_32.1.1.2.2.1 (by decide)
theorem dL_law_1895 : decode cL_law 1895 = .ok (.aload_n 1, 1) := dq_43 by_29_32.1.1.2.2.2
theorem dL_law_1896 : decode cL_law 1896 = .ok (.aload_n 0, 1) := dq_42 by_29_32.1.2.1.1.1
theorem dL_law_1897 : decode cL_law 1897 = .ok (.iload 4, 2) := dq_21 by_29_32.1.2.1.1.2 by_29_32.1.2.1.2.1
theorem dL_law_1899 : decode cL_law 1899 = .ok (.iconst 1, 1) := dq_4 by_29_32.1.2.1.2.2
theorem dL_law_1900 : decode cL_law 1900 = .ok (.iadd, 1) := dq_96 by_29_32.1.2.2.1.1
theorem dL_law_1901 : decode cL_law 1901 = .ok (.iaload, 1) := dq_46 by_29_32.1.2.2.1.2
theorem dL_law_1902 : decode cL_law 1902 = .ok (.aload_n 0, 1) := dq_42 by_29_32.1.2.2.2.1
theorem dL_law_1903 : decode cL_law 1903 = .ok (.iload 4, 2) := dq_21 by_29_32.1.2.2.2.2 by_29_48.1.1.1.1.1
theorem dL_law_1905 : decode cL_law 1905 = .ok (.iconst 2, 1) := dq_5 by_29_48.1.1.1.1.2
theorem dL_law_1906 : decode cL_law 1906 = .ok (.iadd, 1) := dq_96 by_29_48.1.1.1.2.1
theorem dL_law_1907 : decode cL_law 1907 = .ok (.iaload, 1) := dq_46 by_29_48.1.1.1.2.2
theorem dL_law_1908 : decode cL_law 1908 = .ok (.aload_n 3, 1) := dq_45 by_29_48.1.1.2.1.1
theorem dL_law_1909 : decode cL_law 1909 = .ok (.invokestatic 327, 3) := dq_184 by_29_48.1.1.2.1.2 by_29_48.1.1.2.2.1 by_29_48.1.1.2.2.2 rfl
theorem dL_law_1912 : decode cL_law 1912 = .ok (.istore 5, 2) := dq_54 by_29_48.1.2.1.1.1 by_29_48.1.2.1.1.2
theorem dL_law_1914 : decode cL_law 1914 = .ok (.aload_n 2, 1) := dq_44 by_29_48.1.2.1.2.1
theorem dL_law_1915 : decode cL_law 1915 = .ok (.aload_n 0, 1) := dq_42 by_29_48.1.2.1.2.2
theorem dL_law_1916 : decode cL_law 1916 = .ok (.iload 4, 2) := dq_21 by_29_48.1.2.2.1.1 by_29_48.1.2.2.1.2
theorem dL_law_1918 : decode cL_law 1918 = .ok (.iconst 1, 1) := dq_4 by_29_48.1.2.2.2.1
theorem dL_law_1919 : decode cL_law 1919 = .ok (.iadd, 1) := dq_96 by_29_48.1.2.2.2.2
theorem dL_law_1920 : decode cL_law 1920 = .ok (.iaload, 1) := dq_46 by_30_0.1.1.1.1.1
theorem dL_law_1921 : decode cL_law 1921 = .ok (.aload_n 0, 1) := dq_42 by_30_0.1.1.1.1.2
theorem dL_law_1922 : decode cL_law 1922 = .ok (.iload 4, 2) := dq_21 by_30_0.1.1.1.2.1 by_30_0.1.1.1.2.2
theorem dL_law_1924 : decode cL_law 1924 = .ok (.iconst 2, 1) := dq_5 by_30_0.1.1.2.1.1
theorem dL_law_1925 : decode cL_law 1925 = .ok (.iadd, 1) := dq_96 by_30_0.1.1.2.1.2
theorem dL_law_1926 : decode cL_law 1926 = .ok (.iaload, 1) := dq_46 by_30_0.1.1.2.2.1
theorem dL_law_1927 : decode cL_law 1927 = .ok (.invokevirtual 329, 3) := dq_182 by_30_0.1.1.2.2.2 by_30_0.1.2.1.1.1 by_30_0.1.2.1.1.2 rfl
theorem dL_law_1930 : decode cL_law 1930 = .ok (.istore 6, 2) := dq_54 by_30_0.1.2.1.2.1 by_30_0.1.2.1.2.2
theorem dL_law_1932 : decode cL_law 1932 = .ok (.goto 533, 3) := dq_167 by_30_0.1.2.2.1.1 by_30_0.1.2.2.1.2 by_30_0.1.2.2.2.1 (by decide)
theorem dL_law_1935 : decode cL_law 1935 = .ok (.aload_n 1, 1) := dq_43 by_30_0.1.2.2.2.2
theorem dL_law_1936 : decode cL_law 1936 = .ok (.aload_n 0, 1) := dq_42 by_30_16.1.1.1.1.1
theorem dL_law_1937 : decode cL_law 1937 = .ok (.iload 4, 2) := dq_21 by_30_16.1.1.1.1.2 by_30_16.1.1.1.2.1
theorem dL_law_1939 : decode cL_law 1939 = .ok (.iconst 1, 1) := dq_4 by_30_16.1.1.1.2.2
theorem dL_law_1940 : decode cL_law 1940 = .ok (.iadd, 1) := dq_96 by_30_16.1.1.2.1.1
theorem dL_law_1941 : decode cL_law 1941 = .ok (.iaload, 1) := dq_46 by_30_16.1.1.2.1.2
theorem dL_law_1942 : decode cL_law 1942 = .ok (.aload_n 0, 1) := dq_42 by_30_16.1.1.2.2.1
theorem dL_law_1943 : decode cL_law 1943 = .ok (.iload 4, 2) := dq_21 by_30_16.1.1.2.2.2 by_30_16.1.2.1.1.1
theorem dL_law_1945 : decode cL_law 1945 = .ok (.iconst 2, 1) := dq_5 by_30_16.1.2.1.1.2
theorem dL_law_1946 : decode cL_law 1946 = .ok (.iadd, 1) := dq_96 by_30_16.1.2.1.2.1
theorem dL_law_1947 : decode cL_law 1947 = .ok (.iaload, 1) := dq_46 by_30_16.1.2.1.2.2
theorem dL_law_1948 : decode cL_law 1948 = .ok (.aload_n 3, 1) := dq_45 by_30_16.1.2.2.1.1
theorem dL_law_1949 : decode cL_law 1949 = .ok (.invokestatic 330, 3) := dq_184 by_30_16.1.2.2.1.2 by_30_16.1.2.2.2.1 by_30_16.1.2.2.2.2 rfl
theorem dL_law_1952 : decode cL_law 1952 = .ok (.istore 5, 2) := dq_54 by_30_32.1.1.1.1.1 by_30_32.1.1.1.1.2
theorem dL_law_1954 : decode cL_law 1954 = .ok (.aload_n 2, 1) := dq_44 by_30_32.1.1.1.2.1
theorem dL_law_1955 : decode cL_law 1955 = .ok (.aload_n 0, 1) := dq_42 by_30_32.1.1.1.2.2
theorem dL_law_1956 : decode cL_law 1956 = .ok (.iload 4, 2) := dq_21 by_30_32.1.1.2.1.1 by_30_32.1.1.2.1.2
theorem dL_law_1958 : decode cL_law 1958 = .ok (.iconst 1, 1) := dq_4 by_30_32.1.1.2.2.1
theorem dL_law_1959 : decode cL_law 1959 = .ok (.iadd, 1) := dq_96 by_30_32.1.1.2.2.2
theorem dL_law_1960 : decode cL_law 1960 = .ok (.iaload, 1) := dq_46 by_30_32.1.2.1.1.1
theorem dL_law_1961 : decode cL_law 1961 = .ok (.aload_n 0, 1) := dq_42 by_30_32.1.2.1.1.2
theorem dL_law_1962 : decode cL_law 1962 = .ok (.iload 4, 2) := dq_21 by_30_32.1.2.1.2.1 by_30_32.1.2.1.2.2
theorem dL_law_1964 : decode cL_law 1964 = .ok (.iconst 2, 1) := dq_5 by_30_32.1.2.2.1.1
theorem dL_law_1965 : decode cL_law 1965 = .ok (.iadd, 1) := dq_96 by_30_32.1.2.2.1.2
theorem dL_law_1966 : decode cL_law 1966 = .ok (.iaload, 1) := dq_46 by_30_32.1.2.2.2.1
theorem dL_law_1967 : decode cL_law 1967 = .ok (.invokevirtual 332, 3) := dq_182 by_30_32.1.2.2.2.2 by_30_48.1.1.1.1.1 by_30_48.1.1.1.1.2 rfl
theorem dL_law_1970 : decode cL_law 1970 = .ok (.istore 6, 2) := dq_54 by_30_48.1.1.1.2.1 by_30_48.1.1.1.2.2
theorem dL_law_1972 : decode cL_law 1972 = .ok (.goto 493, 3) := dq_167 by_30_48.1.1.2.1.1 by_30_48.1.1.2.1.2 by_30_48.1.1.2.2.1 (by decide)
theorem dL_law_1975 : decode cL_law 1975 = .ok (.aload_n 1, 1) := dq_43 by_30_48.1.1.2.2.2
theorem dL_law_1976 : decode cL_law 1976 = .ok (.aload_n 0, 1) := dq_42 by_30_48.1.2.1.1.1
theorem dL_law_1977 : decode cL_law 1977 = .ok (.iload 4, 2) := dq_21 by_30_48.1.2.1.1.2 by_30_48.1.2.1.2.1
theorem dL_law_1979 : decode cL_law 1979 = .ok (.iconst 1, 1) := dq_4 by_30_48.1.2.1.2.2
theorem dL_law_1980 : decode cL_law 1980 = .ok (.iadd, 1) := dq_96 by_30_48.1.2.2.1.1
theorem dL_law_1981 : decode cL_law 1981 = .ok (.iaload, 1) := dq_46 by_30_48.1.2.2.1.2
theorem dL_law_1982 : decode cL_law 1982 = .ok (.invokevirtual 333, 3) := dq_182 by_30_48.1.2.2.2.1 by_30_48.1.2.2.2.2 by_31_0.1.1.1.1.1 rfl
theorem dL_law_1985 : decode cL_law 1985 = .ok (.pop, 1) := dq_87 by_31_0.1.1.1.1.2
theorem dL_law_1986 : decode cL_law 1986 = .ok (.aload_n 2, 1) := dq_44 by_31_0.1.1.1.2.1
theorem dL_law_1987 : decode cL_law 1987 = .ok (.aload_n 0, 1) := dq_42 by_31_0.1.1.1.2.2
theorem dL_law_1988 : decode cL_law 1988 = .ok (.iload 4, 2) := dq_21 by_31_0.1.1.2.1.1 by_31_0.1.1.2.1.2
theorem dL_law_1990 : decode cL_law 1990 = .ok (.iconst 1, 1) := dq_4 by_31_0.1.1.2.2.1
theorem dL_law_1991 : decode cL_law 1991 = .ok (.iadd, 1) := dq_96 by_31_0.1.1.2.2.2
theorem dL_law_1992 : decode cL_law 1992 = .ok (.iaload, 1) := dq_46 by_31_0.1.2.1.1.1
theorem dL_law_1993 : decode cL_law 1993 = .ok (.invokevirtual 336, 3) := dq_182 by_31_0.1.2.1.1.2 by_31_0.1.2.1.2.1 by_31_0.1.2.1.2.2 rfl
theorem dL_law_1996 : decode cL_law 1996 = .ok (.pop, 1) := dq_87 by_31_0.1.2.2.1.1
theorem dL_law_1997 : decode cL_law 1997 = .ok (.goto 468, 3) := dq_167 by_31_0.1.2.2.1.2 by_31_0.1.2.2.2.1 by_31_0.1.2.2.2.2 (by decide)
theorem dL_law_2000 : decode cL_law 2000 = .ok (.aload_n 1, 1) := dq_43 by_31_16.1.1.1.1.1
theorem dL_law_2001 : decode cL_law 2001 = .ok (.aload_n 0, 1) := dq_42 by_31_16.1.1.1.1.2
theorem dL_law_2002 : decode cL_law 2002 = .ok (.iload 4, 2) := dq_21 by_31_16.1.1.1.2.1 by_31_16.1.1.1.2.2
theorem dL_law_2004 : decode cL_law 2004 = .ok (.iconst 1, 1) := dq_4 by_31_16.1.1.2.1.1
theorem dL_law_2005 : decode cL_law 2005 = .ok (.iadd, 1) := dq_96 by_31_16.1.1.2.1.2
theorem dL_law_2006 : decode cL_law 2006 = .ok (.iaload, 1) := dq_46 by_31_16.1.1.2.2.1
theorem dL_law_2007 : decode cL_law 2007 = .ok (.invokevirtual 337, 3) := dq_182 by_31_16.1.1.2.2.2 by_31_16.1.2.1.1.1 by_31_16.1.2.1.1.2 rfl
theorem dL_law_2010 : decode cL_law 2010 = .ok (.pop, 1) := dq_87 by_31_16.1.2.1.2.1
theorem dL_law_2011 : decode cL_law 2011 = .ok (.aload_n 2, 1) := dq_44 by_31_16.1.2.1.2.2
theorem dL_law_2012 : decode cL_law 2012 = .ok (.aload_n 0, 1) := dq_42 by_31_16.1.2.2.1.1
theorem dL_law_2013 : decode cL_law 2013 = .ok (.iload 4, 2) := dq_21 by_31_16.1.2.2.1.2 by_31_16.1.2.2.2.1
theorem dL_law_2015 : decode cL_law 2015 = .ok (.iconst 1, 1) := dq_4 by_31_16.1.2.2.2.2
theorem dL_law_2016 : decode cL_law 2016 = .ok (.iadd, 1) := dq_96 by_31_32.1.1.1.1.1
theorem dL_law_2017 : decode cL_law 2017 = .ok (.iaload, 1) := dq_46 by_31_32.1.1.1.1.2
theorem dL_law_2018 : decode cL_law 2018 = .ok (.invokevirtual 340, 3) := dq_182 by_31_32.1.1.1.2.1 by_31_32.1.1.1.2.2 by_31_32.1.1.2.1.1 rfl
theorem dL_law_2021 : decode cL_law 2021 = .ok (.pop, 1) := dq_87 by_31_32.1.1.2.1.2
theorem dL_law_2022 : decode cL_law 2022 = .ok (.goto 443, 3) := dq_167 by_31_32.1.1.2.2.1 by_31_32.1.1.2.2.2 by_31_32.1.2.1.1.1 (by decide)
theorem dL_law_2025 : decode cL_law 2025 = .ok (.aload_n 1, 1) := dq_43 by_31_32.1.2.1.1.2
theorem dL_law_2026 : decode cL_law 2026 = .ok (.aload_n 0, 1) := dq_42 by_31_32.1.2.1.2.1
theorem dL_law_2027 : decode cL_law 2027 = .ok (.iload 4, 2) := dq_21 by_31_32.1.2.1.2.2 by_31_32.1.2.2.1.1
theorem dL_law_2029 : decode cL_law 2029 = .ok (.iconst 1, 1) := dq_4 by_31_32.1.2.2.1.2
theorem dL_law_2030 : decode cL_law 2030 = .ok (.iadd, 1) := dq_96 by_31_32.1.2.2.2.1
theorem dL_law_2031 : decode cL_law 2031 = .ok (.iaload, 1) := dq_46 by_31_32.1.2.2.2.2
theorem dL_law_2032 : decode cL_law 2032 = .ok (.invokevirtual 341, 3) := dq_182 by_31_48.1.1.1.1.1 by_31_48.1.1.1.1.2 by_31_48.1.1.1.2.1 rfl
theorem dL_law_2035 : decode cL_law 2035 = .ok (.pop, 1) := dq_87 by_31_48.1.1.1.2.2
theorem dL_law_2036 : decode cL_law 2036 = .ok (.aload_n 2, 1) := dq_44 by_31_48.1.1.2.1.1
theorem dL_law_2037 : decode cL_law 2037 = .ok (.aload_n 0, 1) := dq_42 by_31_48.1.1.2.1.2
theorem dL_law_2038 : decode cL_law 2038 = .ok (.iload 4, 2) := dq_21 by_31_48.1.1.2.2.1 by_31_48.1.1.2.2.2
theorem dL_law_2040 : decode cL_law 2040 = .ok (.iconst 1, 1) := dq_4 by_31_48.1.2.1.1.1
theorem dL_law_2041 : decode cL_law 2041 = .ok (.iadd, 1) := dq_96 by_31_48.1.2.1.1.2
theorem dL_law_2042 : decode cL_law 2042 = .ok (.iaload, 1) := dq_46 by_31_48.1.2.1.2.1
theorem dL_law_2043 : decode cL_law 2043 = .ok (.invokevirtual 344, 3) := dq_182 by_31_48.1.2.1.2.2 by_31_48.1.2.2.1.1 by_31_48.1.2.2.1.2 rfl
theorem dL_law_2046 : decode cL_law 2046 = .ok (.pop, 1) := dq_87 by_31_48.1.2.2.2.1
theorem dL_law_2047 : decode cL_law 2047 = .ok (.goto 418, 3) := dq_167 by_31_48.1.2.2.2.2 by_32_0.1.1.1.1.1 by_32_0.1.1.1.1.2 (by decide)
theorem dL_law_2050 : decode cL_law 2050 = .ok (.aload_n 1, 1) := dq_43 by_32_0.1.1.1.2.1
theorem dL_law_2051 : decode cL_law 2051 = .ok (.aload_n 0, 1) := dq_42 by_32_0.1.1.1.2.2
theorem dL_law_2052 : decode cL_law 2052 = .ok (.iload 4, 2) := dq_21 by_32_0.1.1.2.1.1 by_32_0.1.1.2.1.2
theorem dL_law_2054 : decode cL_law 2054 = .ok (.iconst 1, 1) := dq_4 by_32_0.1.1.2.2.1
theorem dL_law_2055 : decode cL_law 2055 = .ok (.iadd, 1) := dq_96 by_32_0.1.1.2.2.2
theorem dL_law_2056 : decode cL_law 2056 = .ok (.iaload, 1) := dq_46 by_32_0.1.2.1.1.1
theorem dL_law_2057 : decode cL_law 2057 = .ok (.invokevirtual 345, 3) := dq_182 by_32_0.1.2.1.1.2 by_32_0.1.2.1.2.1 by_32_0.1.2.1.2.2 rfl
theorem dL_law_2060 : decode cL_law 2060 = .ok (.pop, 1) := dq_87 by_32_0.1.2.2.1.1
theorem dL_law_2061 : decode cL_law 2061 = .ok (.aload_n 2, 1) := dq_44 by_32_0.1.2.2.1.2
theorem dL_law_2062 : decode cL_law 2062 = .ok (.aload_n 0, 1) := dq_42 by_32_0.1.2.2.2.1
theorem dL_law_2063 : decode cL_law 2063 = .ok (.iload 4, 2) := dq_21 by_32_0.1.2.2.2.2 by_32_16.1.1.1.1.1
theorem dL_law_2065 : decode cL_law 2065 = .ok (.iconst 1, 1) := dq_4 by_32_16.1.1.1.1.2
theorem dL_law_2066 : decode cL_law 2066 = .ok (.iadd, 1) := dq_96 by_32_16.1.1.1.2.1
theorem dL_law_2067 : decode cL_law 2067 = .ok (.iaload, 1) := dq_46 by_32_16.1.1.1.2.2
theorem dL_law_2068 : decode cL_law 2068 = .ok (.invokevirtual 348, 3) := dq_182 by_32_16.1.1.2.1.1 by_32_16.1.1.2.1.2 by_32_16.1.1.2.2.1 rfl
theorem dL_law_2071 : decode cL_law 2071 = .ok (.pop, 1) := dq_87 by_32_16.1.1.2.2.2
theorem dL_law_2072 : decode cL_law 2072 = .ok (.goto 393, 3) := dq_167 by_32_16.1.2.1.1.1 by_32_16.1.2.1.1.2 by_32_16.1.2.1.2.1 (by decide)
theorem dL_law_2075 : decode cL_law 2075 = .ok (.aload_n 1, 1) := dq_43 by_32_16.1.2.1.2.2
theorem dL_law_2076 : decode cL_law 2076 = .ok (.aload_n 0, 1) := dq_42 by_32_16.1.2.2.1.1
theorem dL_law_2077 : decode cL_law 2077 = .ok (.iload 4, 2) := dq_21 by_32_16.1.2.2.1.2 by_32_16.1.2.2.2.1
theorem dL_law_2079 : decode cL_law 2079 = .ok (.iconst 1, 1) := dq_4 by_32_16.1.2.2.2.2
theorem dL_law_2080 : decode cL_law 2080 = .ok (.iadd, 1) := dq_96 by_32_32.1.1.1.1.1
theorem dL_law_2081 : decode cL_law 2081 = .ok (.iaload, 1) := dq_46 by_32_32.1.1.1.1.2
theorem dL_law_2082 : decode cL_law 2082 = .ok (.aload_n 0, 1) := dq_42 by_32_32.1.1.1.2.1
theorem dL_law_2083 : decode cL_law 2083 = .ok (.iload 4, 2) := dq_21 by_32_32.1.1.1.2.2 by_32_32.1.1.2.1.1
theorem dL_law_2085 : decode cL_law 2085 = .ok (.iconst 2, 1) := dq_5 by_32_32.1.1.2.1.2
theorem dL_law_2086 : decode cL_law 2086 = .ok (.iadd, 1) := dq_96 by_32_32.1.1.2.2.1
theorem dL_law_2087 : decode cL_law 2087 = .ok (.iaload, 1) := dq_46 by_32_32.1.1.2.2.2
theorem dL_law_2088 : decode cL_law 2088 = .ok (.ifCond .eq 7, 3) := dq_153 by_32_32.1.2.1.1.1 by_32_32.1.2.1.1.2 by_32_32.1.2.1.2.1 (by decide)
theorem dL_law_2091 : decode cL_law 2091 = .ok (.iconst 1, 1) := dq_4 by_32_32.1.2.1.2.2
theorem dL_law_2092 : decode cL_law 2092 = .ok (.goto 4, 3) := dq_167 by_32_32.1.2.2.1.1 by_32_32.1.2.2.1.2 by_32_32.1.2.2.2.1 (by decide)
theorem dL_law_2095 : decode cL_law 2095 = .ok (.iconst 0, 1) := dq_3 by_32_32.1.2.2.2.2
theorem dL_law_2096 : decode cL_law 2096 = .ok (.aload_n 3, 1) := dq_45 by_32_48.1.1.1.1.1
theorem dL_law_2097 : decode cL_law 2097 = .ok (.invokestatic 349, 3) := dq_184 by_32_48.1.1.1.1.2 by_32_48.1.1.1.2.1 by_32_48.1.1.1.2.2 rfl
theorem dL_law_2100 : decode cL_law 2100 = .ok (.istore 5, 2) := dq_54 by_32_48.1.1.2.1.1 by_32_48.1.1.2.1.2
theorem dL_law_2102 : decode cL_law 2102 = .ok (.aload_n 2, 1) := dq_44 by_32_48.1.1.2.2.1
theorem dL_law_2103 : decode cL_law 2103 = .ok (.aload_n 0, 1) := dq_42 by_32_48.1.1.2.2.2
theorem dL_law_2104 : decode cL_law 2104 = .ok (.iload 4, 2) := dq_21 by_32_48.1.2.1.1.1 by_32_48.1.2.1.1.2
theorem dL_law_2106 : decode cL_law 2106 = .ok (.iconst 1, 1) := dq_4 by_32_48.1.2.1.2.1
theorem dL_law_2107 : decode cL_law 2107 = .ok (.iadd, 1) := dq_96 by_32_48.1.2.1.2.2
theorem dL_law_2108 : decode cL_law 2108 = .ok (.iaload, 1) := dq_46 by_32_48.1.2.2.1.1
theorem dL_law_2109 : decode cL_law 2109 = .ok (.aload_n 0, 1) := dq_42 by_32_48.1.2.2.1.2
theorem dL_law_2110 : decode cL_law 2110 = .ok (.iload 4, 2) := dq_21 by_32_48.1.2.2.2.1 by_32_48.1.2.2.2.2
theorem dL_law_2112 : decode cL_law 2112 = .ok (.iconst 2, 1) := dq_5 by_33_0.1.1.1.1.1
theorem dL_law_2113 : decode cL_law 2113 = .ok (.iadd, 1) := dq_96 by_33_0.1.1.1.1.2
theorem dL_law_2114 : decode cL_law 2114 = .ok (.iaload, 1) := dq_46 by_33_0.1.1.1.2.1
theorem dL_law_2115 : decode cL_law 2115 = .ok (.ifCond .eq 7, 3) := dq_153 by_33_0.1.1.1.2.2 by_33_0.1.1.2.1.1 by_33_0.1.1.2.1.2 (by decide)
theorem dL_law_2118 : decode cL_law 2118 = .ok (.iconst 1, 1) := dq_4 by_33_0.1.1.2.2.1
theorem dL_law_2119 : decode cL_law 2119 = .ok (.goto 4, 3) := dq_167 by_33_0.1.1.2.2.2 by_33_0.1.2.1.1.1 by_33_0.1.2.1.1.2 (by decide)
theorem dL_law_2122 : decode cL_law 2122 = .ok (.iconst 0, 1) := dq_3 by_33_0.1.2.1.2.1
theorem dL_law_2123 : decode cL_law 2123 = .ok (.invokevirtual 351, 3) := dq_182 by_33_0.1.2.1.2.2 by_33_0.1.2.2.1.1 by_33_0.1.2.2.1.2 rfl
theorem dL_law_2126 : decode cL_law 2126 = .ok (.istore 6, 2) := dq_54 by_33_0.1.2.2.2.1 by_33_0.1.2.2.2.2
theorem dL_law_2128 : decode cL_law 2128 = .ok (.goto 337, 3) := dq_167 by_33_16.1.1.1.1.1 by_33_16.1.1.1.1.2 by_33_16.1.1.1.2.1 (by decide)
theorem dL_law_2131 : decode cL_law 2131 = .ok (.aload_n 1, 1) := dq_43 by_33_16.1.1.1.2.2
theorem dL_law_2132 : decode cL_law 2132 = .ok (.aload_n 0, 1) := dq_42 by_33_16.1.1.2.1.1
theorem dL_law_2133 : decode cL_law 2133 = .ok (.iload 4, 2) := dq_21 by_33_16.1.1.2.1.2 by_33_16.1.1.2.2.1
theorem dL_law_2135 : decode cL_law 2135 = .ok (.iconst 1, 1) := dq_4 by_33_16.1.1.2.2.2
theorem dL_law_2136 : decode cL_law 2136 = .ok (.iadd, 1) := dq_96 by_33_16.1.2.1.1.1
theorem dL_law_2137 : decode cL_law 2137 = .ok (.iaload, 1) := dq_46 by_33_16.1.2.1.1.2
theorem dL_law_2138 : decode cL_law 2138 = .ok (.aload_n 0, 1) := dq_42 by_33_16.1.2.1.2.1
theorem dL_law_2139 : decode cL_law 2139 = .ok (.iload 4, 2) := dq_21 by_33_16.1.2.1.2.2 by_33_16.1.2.2.1.1
theorem dL_law_2141 : decode cL_law 2141 = .ok (.iconst 2, 1) := dq_5 by_33_16.1.2.2.1.2
theorem dL_law_2142 : decode cL_law 2142 = .ok (.iadd, 1) := dq_96 by_33_16.1.2.2.2.1
theorem dL_law_2143 : decode cL_law 2143 = .ok (.iaload, 1) := dq_46 by_33_16.1.2.2.2.2
theorem dL_law_2144 : decode cL_law 2144 = .ok (.aload_n 3, 1) := dq_45 by_33_32.1.1.1.1.1
theorem dL_law_2145 : decode cL_law 2145 = .ok (.invokestatic 352, 3) := dq_184 by_33_32.1.1.1.1.2 by_33_32.1.1.1.2.1 by_33_32.1.1.1.2.2 rfl
theorem dL_law_2148 : decode cL_law 2148 = .ok (.istore 5, 2) := dq_54 by_33_32.1.1.2.1.1 by_33_32.1.1.2.1.2
theorem dL_law_2150 : decode cL_law 2150 = .ok (.aload_n 2, 1) := dq_44 by_33_32.1.1.2.2.1
theorem dL_law_2151 : decode cL_law 2151 = .ok (.aload_n 0, 1) := dq_42 by_33_32.1.1.2.2.2
theorem dL_law_2152 : decode cL_law 2152 = .ok (.iload 4, 2) := dq_21 by_33_32.1.2.1.1.1 by_33_32.1.2.1.1.2
theorem dL_law_2154 : decode cL_law 2154 = .ok (.iconst 1, 1) := dq_4 by_33_32.1.2.1.2.1
theorem dL_law_2155 : decode cL_law 2155 = .ok (.iadd, 1) := dq_96 by_33_32.1.2.1.2.2
theorem dL_law_2156 : decode cL_law 2156 = .ok (.iaload, 1) := dq_46 by_33_32.1.2.2.1.1
theorem dL_law_2157 : decode cL_law 2157 = .ok (.aload_n 0, 1) := dq_42 by_33_32.1.2.2.1.2
theorem dL_law_2158 : decode cL_law 2158 = .ok (.iload 4, 2) := dq_21 by_33_32.1.2.2.2.1 by_33_32.1.2.2.2.2
theorem dL_law_2160 : decode cL_law 2160 = .ok (.iconst 2, 1) := dq_5 by_33_48.1.1.1.1.1
theorem dL_law_2161 : decode cL_law 2161 = .ok (.iadd, 1) := dq_96 by_33_48.1.1.1.1.2
theorem dL_law_2162 : decode cL_law 2162 = .ok (.iaload, 1) := dq_46 by_33_48.1.1.1.2.1
theorem dL_law_2163 : decode cL_law 2163 = .ok (.invokevirtual 354, 3) := dq_182 by_33_48.1.1.1.2.2 by_33_48.1.1.2.1.1 by_33_48.1.1.2.1.2 rfl
theorem dL_law_2166 : decode cL_law 2166 = .ok (.istore 6, 2) := dq_54 by_33_48.1.1.2.2.1 by_33_48.1.1.2.2.2
theorem dL_law_2168 : decode cL_law 2168 = .ok (.goto 297, 3) := dq_167 by_33_48.1.2.1.1.1 by_33_48.1.2.1.1.2 by_33_48.1.2.1.2.1 (by decide)
theorem dL_law_2171 : decode cL_law 2171 = .ok (.aload_n 1, 1) := dq_43 by_33_48.1.2.1.2.2
theorem dL_law_2172 : decode cL_law 2172 = .ok (.aload_n 0, 1) := dq_42 by_33_48.1.2.2.1.1
theorem dL_law_2173 : decode cL_law 2173 = .ok (.iload 4, 2) := dq_21 by_33_48.1.2.2.1.2 by_33_48.1.2.2.2.1
theorem dL_law_2175 : decode cL_law 2175 = .ok (.iconst 1, 1) := dq_4 by_33_48.1.2.2.2.2
theorem dL_law_2176 : decode cL_law 2176 = .ok (.iadd, 1) := dq_96 by_34_0.1.1.1.1.1
theorem dL_law_2177 : decode cL_law 2177 = .ok (.iaload, 1) := dq_46 by_34_0.1.1.1.1.2
theorem dL_law_2178 : decode cL_law 2178 = .ok (.aload_n 0, 1) := dq_42 by_34_0.1.1.1.2.1
theorem dL_law_2179 : decode cL_law 2179 = .ok (.iload 4, 2) := dq_21 by_34_0.1.1.1.2.2 by_34_0.1.1.2.1.1
theorem dL_law_2181 : decode cL_law 2181 = .ok (.iconst 2, 1) := dq_5 by_34_0.1.1.2.1.2
theorem dL_law_2182 : decode cL_law 2182 = .ok (.iadd, 1) := dq_96 by_34_0.1.1.2.2.1
theorem dL_law_2183 : decode cL_law 2183 = .ok (.iaload, 1) := dq_46 by_34_0.1.1.2.2.2
theorem dL_law_2184 : decode cL_law 2184 = .ok (.aload_n 3, 1) := dq_45 by_34_0.1.2.1.1.1
theorem dL_law_2185 : decode cL_law 2185 = .ok (.invokestatic 355, 3) := dq_184 by_34_0.1.2.1.1.2 by_34_0.1.2.1.2.1 by_34_0.1.2.1.2.2 rfl
theorem dL_law_2188 : decode cL_law 2188 = .ok (.istore 5, 2) := dq_54 by_34_0.1.2.2.1.1 by_34_0.1.2.2.1.2
theorem dL_law_2190 : decode cL_law 2190 = .ok (.aload_n 2, 1) := dq_44 by_34_0.1.2.2.2.1
theorem dL_law_2191 : decode cL_law 2191 = .ok (.aload_n 0, 1) := dq_42 by_34_0.1.2.2.2.2
theorem dL_law_2192 : decode cL_law 2192 = .ok (.iload 4, 2) := dq_21 by_34_16.1.1.1.1.1 by_34_16.1.1.1.1.2
theorem dL_law_2194 : decode cL_law 2194 = .ok (.iconst 1, 1) := dq_4 by_34_16.1.1.1.2.1
theorem dL_law_2195 : decode cL_law 2195 = .ok (.iadd, 1) := dq_96 by_34_16.1.1.1.2.2
theorem dL_law_2196 : decode cL_law 2196 = .ok (.iaload, 1) := dq_46 by_34_16.1.1.2.1.1
theorem dL_law_2197 : decode cL_law 2197 = .ok (.aload_n 0, 1) := dq_42 by_34_16.1.1.2.1.2
theorem dL_law_2198 : decode cL_law 2198 = .ok (.iload 4, 2) := dq_21 by_34_16.1.1.2.2.1 by_34_16.1.1.2.2.2
theorem dL_law_2200 : decode cL_law 2200 = .ok (.iconst 2, 1) := dq_5 by_34_16.1.2.1.1.1
theorem dL_law_2201 : decode cL_law 2201 = .ok (.iadd, 1) := dq_96 by_34_16.1.2.1.1.2
theorem dL_law_2202 : decode cL_law 2202 = .ok (.iaload, 1) := dq_46 by_34_16.1.2.1.2.1
theorem dL_law_2203 : decode cL_law 2203 = .ok (.invokevirtual 357, 3) := dq_182 by_34_16.1.2.1.2.2 by_34_16.1.2.2.1.1 by_34_16.1.2.2.1.2 rfl
theorem dL_law_2206 : decode cL_law 2206 = .ok (.istore 6, 2) := dq_54 by_34_16.1.2.2.2.1 by_34_16.1.2.2.2.2
theorem dL_law_2208 : decode cL_law 2208 = .ok (.goto 257, 3) := dq_167 by_34_32.1.1.1.1.1 by_34_32.1.1.1.1.2 by_34_32.1.1.1.2.1 (by decide)
theorem dL_law_2211 : decode cL_law 2211 = .ok (.aload_n 1, 1) := dq_43 by_34_32.1.1.1.2.2
theorem dL_law_2212 : decode cL_law 2212 = .ok (.aload_n 0, 1) := dq_42 by_34_32.1.1.2.1.1
theorem dL_law_2213 : decode cL_law 2213 = .ok (.iload 4, 2) := dq_21 by_34_32.1.1.2.1.2 by_34_32.1.1.2.2.1
theorem dL_law_2215 : decode cL_law 2215 = .ok (.iconst 1, 1) := dq_4 by_34_32.1.1.2.2.2
theorem dL_law_2216 : decode cL_law 2216 = .ok (.iadd, 1) := dq_96 by_34_32.1.2.1.1.1
theorem dL_law_2217 : decode cL_law 2217 = .ok (.iaload, 1) := dq_46 by_34_32.1.2.1.1.2
theorem dL_law_2218 : decode cL_law 2218 = .ok (.aload_n 0, 1) := dq_42 by_34_32.1.2.1.2.1
theorem dL_law_2219 : decode cL_law 2219 = .ok (.iload 4, 2) := dq_21 by_34_32.1.2.1.2.2 by_34_32.1.2.2.1.1
theorem dL_law_2221 : decode cL_law 2221 = .ok (.iconst 2, 1) := dq_5 by_34_32.1.2.2.1.2
theorem dL_law_2222 : decode cL_law 2222 = .ok (.iadd, 1) := dq_96 by_34_32.1.2.2.2.1
theorem dL_law_2223 : decode cL_law 2223 = .ok (.iaload, 1) := dq_46 by_34_32.1.2.2.2.2
theorem dL_law_2224 : decode cL_law 2224 = .ok (.aload_n 3, 1) := dq_45 by_34_48.1.1.1.1.1
theorem dL_law_2225 : decode cL_law 2225 = .ok (.invokestatic 358, 3) := dq_184 by_34_48.1.1.1.1.2 by_34_48.1.1.1.2.1 by_34_48.1.1.1.2.2 rfl
theorem dL_law_2228 : decode cL_law 2228 = .ok (.istore 5, 2) := dq_54 by_34_48.1.1.2.1.1 by_34_48.1.1.2.1.2
theorem dL_law_2230 : decode cL_law 2230 = .ok (.aload_n 2, 1) := dq_44 by_34_48.1.1.2.2.1
theorem dL_law_2231 : decode cL_law 2231 = .ok (.aload_n 0, 1) := dq_42 by_34_48.1.1.2.2.2
theorem dL_law_2232 : decode cL_law 2232 = .ok (.iload 4, 2) := dq_21 by_34_48.1.2.1.1.1 by_34_48.1.2.1.1.2
theorem dL_law_2234 : decode cL_law 2234 = .ok (.iconst 1, 1) := dq_4 by_34_48.1.2.1.2.1
theorem dL_law_2235 : decode cL_law 2235 = .ok (.iadd, 1) := dq_96 by_34_48.1.2.1.2.2
theorem dL_law_2236 : decode cL_law 2236 = .ok (.iaload, 1) := dq_46 by_34_48.1.2.2.1.1
theorem dL_law_2237 : decode cL_law 2237 = .ok (.aload_n 0, 1) := dq_42 by_34_48.1.2.2.1.2
theorem dL_law_2238 : decode cL_law 2238 = .ok (.iload 4, 2) := dq_21 by_34_48.1.2.2.2.1 by_34_48.1.2.2.2.2
theorem dL_law_2240 : decode cL_law 2240 = .ok (.iconst 2, 1) := dq_5 by_35_0.1.1.1.1.1
theorem dL_law_2241 : decode cL_law 2241 = .ok (.iadd, 1) := dq_96 by_35_0.1.1.1.1.2
theorem dL_law_2242 : decode cL_law 2242 = .ok (.iaload, 1) := dq_46 by_35_0.1.1.1.2.1
theorem dL_law_2243 : decode cL_law 2243 = .ok (.invokevirtual 360, 3) := dq_182 by_35_0.1.1.1.2.2 by_35_0.1.1.2.1.1 by_35_0.1.1.2.1.2 rfl
theorem dL_law_2246 : decode cL_law 2246 = .ok (.istore 6, 2) := dq_54 by_35_0.1.1.2.2.1 by_35_0.1.1.2.2.2
theorem dL_law_2248 : decode cL_law 2248 = .ok (.goto 217, 3) := dq_167 by_35_0.1.2.1.1.1 by_35_0.1.2.1.1.2 by_35_0.1.2.1.2.1 (by decide)
theorem dL_law_2251 : decode cL_law 2251 = .ok (.aload_n 1, 1) := dq_43 by_35_0.1.2.1.2.2
theorem dL_law_2252 : decode cL_law 2252 = .ok (.aload_n 0, 1) := dq_42 by_35_0.1.2.2.1.1
theorem dL_law_2253 : decode cL_law 2253 = .ok (.iload 4, 2) := dq_21 by_35_0.1.2.2.1.2 by_35_0.1.2.2.2.1
theorem dL_law_2255 : decode cL_law 2255 = .ok (.iconst 1, 1) := dq_4 by_35_0.1.2.2.2.2
theorem dL_law_2256 : decode cL_law 2256 = .ok (.iadd, 1) := dq_96 by_35_16.1.1.1.1.1
theorem dL_law_2257 : decode cL_law 2257 = .ok (.iaload, 1) := dq_46 by_35_16.1.1.1.1.2
theorem dL_law_2258 : decode cL_law 2258 = .ok (.aload_n 0, 1) := dq_42 by_35_16.1.1.1.2.1
theorem dL_law_2259 : decode cL_law 2259 = .ok (.iload 4, 2) := dq_21 by_35_16.1.1.1.2.2 by_35_16.1.1.2.1.1
theorem dL_law_2261 : decode cL_law 2261 = .ok (.iconst 2, 1) := dq_5 by_35_16.1.1.2.1.2
theorem dL_law_2262 : decode cL_law 2262 = .ok (.iadd, 1) := dq_96 by_35_16.1.1.2.2.1
theorem dL_law_2263 : decode cL_law 2263 = .ok (.iaload, 1) := dq_46 by_35_16.1.1.2.2.2
theorem dL_law_2264 : decode cL_law 2264 = .ok (.aload_n 3, 1) := dq_45 by_35_16.1.2.1.1.1
theorem dL_law_2265 : decode cL_law 2265 = .ok (.invokestatic 361, 3) := dq_184 by_35_16.1.2.1.1.2 by_35_16.1.2.1.2.1 by_35_16.1.2.1.2.2 rfl
theorem dL_law_2268 : decode cL_law 2268 = .ok (.istore 5, 2) := dq_54 by_35_16.1.2.2.1.1 by_35_16.1.2.2.1.2
theorem dL_law_2270 : decode cL_law 2270 = .ok (.aload_n 2, 1) := dq_44 by_35_16.1.2.2.2.1
theorem dL_law_2271 : decode cL_law 2271 = .ok (.aload_n 0, 1) := dq_42 by_35_16.1.2.2.2.2
theorem dL_law_2272 : decode cL_law 2272 = .ok (.iload 4, 2) := dq_21 by_35_32.1.1.1.1.1 by_35_32.1.1.1.1.2
theorem dL_law_2274 : decode cL_law 2274 = .ok (.iconst 1, 1) := dq_4 by_35_32.1.1.1.2.1
theorem dL_law_2275 : decode cL_law 2275 = .ok (.iadd, 1) := dq_96 by_35_32.1.1.1.2.2
theorem dL_law_2276 : decode cL_law 2276 = .ok (.iaload, 1) := dq_46 by_35_32.1.1.2.1.1
theorem dL_law_2277 : decode cL_law 2277 = .ok (.aload_n 0, 1) := dq_42 by_35_32.1.1.2.1.2
theorem dL_law_2278 : decode cL_law 2278 = .ok (.iload 4, 2) := dq_21 by_35_32.1.1.2.2.1 by_35_32.1.1.2.2.2
theorem dL_law_2280 : decode cL_law 2280 = .ok (.iconst 2, 1) := dq_5 by_35_32.1.2.1.1.1
theorem dL_law_2281 : decode cL_law 2281 = .ok (.iadd, 1) := dq_96 by_35_32.1.2.1.1.2
theorem dL_law_2282 : decode cL_law 2282 = .ok (.iaload, 1) := dq_46 by_35_32.1.2.1.2.1
theorem dL_law_2283 : decode cL_law 2283 = .ok (.invokevirtual 363, 3) := dq_182 by_35_32.1.2.1.2.2 by_35_32.1.2.2.1.1 by_35_32.1.2.2.1.2 rfl
theorem dL_law_2286 : decode cL_law 2286 = .ok (.istore 6, 2) := dq_54 by_35_32.1.2.2.2.1 by_35_32.1.2.2.2.2
theorem dL_law_2288 : decode cL_law 2288 = .ok (.goto 177, 3) := dq_167 by_35_48.1.1.1.1.1 by_35_48.1.1.1.1.2 by_35_48.1.1.1.2.1 (by decide)
theorem dL_law_2291 : decode cL_law 2291 = .ok (.aload_n 1, 1) := dq_43 by_35_48.1.1.1.2.2
theorem dL_law_2292 : decode cL_law 2292 = .ok (.aload_n 0, 1) := dq_42 by_35_48.1.1.2.1.1
theorem dL_law_2293 : decode cL_law 2293 = .ok (.iload 4, 2) := dq_21 by_35_48.1.1.2.1.2 by_35_48.1.1.2.2.1
theorem dL_law_2295 : decode cL_law 2295 = .ok (.iconst 1, 1) := dq_4 by_35_48.1.1.2.2.2
theorem dL_law_2296 : decode cL_law 2296 = .ok (.iadd, 1) := dq_96 by_35_48.1.2.1.1.1
theorem dL_law_2297 : decode cL_law 2297 = .ok (.iaload, 1) := dq_46 by_35_48.1.2.1.1.2
theorem dL_law_2298 : decode cL_law 2298 = .ok (.aload_n 0, 1) := dq_42 by_35_48.1.2.1.2.1
theorem dL_law_2299 : decode cL_law 2299 = .ok (.iload 4, 2) := dq_21 by_35_48.1.2.1.2.2 by_35_48.1.2.2.1.1
theorem dL_law_2301 : decode cL_law 2301 = .ok (.iconst 2, 1) := dq_5 by_35_48.1.2.2.1.2
theorem dL_law_2302 : decode cL_law 2302 = .ok (.iadd, 1) := dq_96 by_35_48.1.2.2.2.1
theorem dL_law_2303 : decode cL_law 2303 = .ok (.iaload, 1) := dq_46 by_35_48.1.2.2.2.2
theorem dL_law_2304 : decode cL_law 2304 = .ok (.aload_n 3, 1) := dq_45 by_36_0.1.1.1.1.1
theorem dL_law_2305 : decode cL_law 2305 = .ok (.invokestatic 364, 3) := dq_184 by_36_0.1.1.1.1.2 by_36_0.1.1.1.2.1 by_36_0.1.1.1.2.2 rfl
theorem dL_law_2308 : decode cL_law 2308 = .ok (.istore 5, 2) := dq_54 by_36_0.1.1.2.1.1 by_36_0.1.1.2.1.2
theorem dL_law_2310 : decode cL_law 2310 = .ok (.aload_n 2, 1) := dq_44 by_36_0.1.1.2.2.1
theorem dL_law_2311 : decode cL_law 2311 = .ok (.aload_n 0, 1) := dq_42 by_36_0.1.1.2.2.2
theorem dL_law_2312 : decode cL_law 2312 = .ok (.iload 4, 2) := dq_21 by_36_0.1.2.1.1.1 by_36_0.1.2.1.1.2
theorem dL_law_2314 : decode cL_law 2314 = .ok (.iconst 1, 1) := dq_4 by_36_0.1.2.1.2.1
theorem dL_law_2315 : decode cL_law 2315 = .ok (.iadd, 1) := dq_96 by_36_0.1.2.1.2.2
theorem dL_law_2316 : decode cL_law 2316 = .ok (.iaload, 1) := dq_46 by_36_0.1.2.2.1.1
theorem dL_law_2317 : decode cL_law 2317 = .ok (.aload_n 0, 1) := dq_42 by_36_0.1.2.2.1.2
theorem dL_law_2318 : decode cL_law 2318 = .ok (.iload 4, 2) := dq_21 by_36_0.1.2.2.2.1 by_36_0.1.2.2.2.2
theorem dL_law_2320 : decode cL_law 2320 = .ok (.iconst 2, 1) := dq_5 by_36_16.1.1.1.1.1
theorem dL_law_2321 : decode cL_law 2321 = .ok (.iadd, 1) := dq_96 by_36_16.1.1.1.1.2
theorem dL_law_2322 : decode cL_law 2322 = .ok (.iaload, 1) := dq_46 by_36_16.1.1.1.2.1
theorem dL_law_2323 : decode cL_law 2323 = .ok (.invokevirtual 366, 3) := dq_182 by_36_16.1.1.1.2.2 by_36_16.1.1.2.1.1 by_36_16.1.1.2.1.2 rfl
theorem dL_law_2326 : decode cL_law 2326 = .ok (.istore 6, 2) := dq_54 by_36_16.1.1.2.2.1 by_36_16.1.1.2.2.2
theorem dL_law_2328 : decode cL_law 2328 = .ok (.goto 137, 3) := dq_167 by_36_16.1.2.1.1.1 by_36_16.1.2.1.1.2 by_36_16.1.2.1.2.1 (by decide)
theorem dL_law_2331 : decode cL_law 2331 = .ok (.aload_n 1, 1) := dq_43 by_36_16.1.2.1.2.2
theorem dL_law_2332 : decode cL_law 2332 = .ok (.aload_n 0, 1) := dq_42 by_36_16.1.2.2.1.1
theorem dL_law_2333 : decode cL_law 2333 = .ok (.iload 4, 2) := dq_21 by_36_16.1.2.2.1.2 by_36_16.1.2.2.2.1
theorem dL_law_2335 : decode cL_law 2335 = .ok (.iconst 1, 1) := dq_4 by_36_16.1.2.2.2.2
theorem dL_law_2336 : decode cL_law 2336 = .ok (.iadd, 1) := dq_96 by_36_32.1.1.1.1.1
theorem dL_law_2337 : decode cL_law 2337 = .ok (.iaload, 1) := dq_46 by_36_32.1.1.1.1.2
theorem dL_law_2338 : decode cL_law 2338 = .ok (.aload_n 0, 1) := dq_42 by_36_32.1.1.1.2.1
theorem dL_law_2339 : decode cL_law 2339 = .ok (.iload 4, 2) := dq_21 by_36_32.1.1.1.2.2 by_36_32.1.1.2.1.1
theorem dL_law_2341 : decode cL_law 2341 = .ok (.iconst 2, 1) := dq_5 by_36_32.1.1.2.1.2
theorem dL_law_2342 : decode cL_law 2342 = .ok (.iadd, 1) := dq_96 by_36_32.1.1.2.2.1
theorem dL_law_2343 : decode cL_law 2343 = .ok (.iaload, 1) := dq_46 by_36_32.1.1.2.2.2
theorem dL_law_2344 : decode cL_law 2344 = .ok (.aload_n 3, 1) := dq_45 by_36_32.1.2.1.1.1
theorem dL_law_2345 : decode cL_law 2345 = .ok (.invokestatic 367, 3) := dq_184 by_36_32.1.2.1.1.2 by_36_32.1.2.1.2.1 by_36_32.1.2.1.2.2 rfl
theorem dL_law_2348 : decode cL_law 2348 = .ok (.istore 5, 2) := dq_54 by_36_32.1.2.2.1.1 by_36_32.1.2.2.1.2
theorem dL_law_2350 : decode cL_law 2350 = .ok (.aload_n 2, 1) := dq_44 by_36_32.1.2.2.2.1
theorem dL_law_2351 : decode cL_law 2351 = .ok (.aload_n 0, 1) := dq_42 by_36_32.1.2.2.2.2
theorem dL_law_2352 : decode cL_law 2352 = .ok (.iload 4, 2) := dq_21 by_36_48.1.1.1.1.1 by_36_48.1.1.1.1.2
theorem dL_law_2354 : decode cL_law 2354 = .ok (.iconst 1, 1) := dq_4 by_36_48.1.1.1.2.1
theorem dL_law_2355 : decode cL_law 2355 = .ok (.iadd, 1) := dq_96 by_36_48.1.1.1.2.2
theorem dL_law_2356 : decode cL_law 2356 = .ok (.iaload, 1) := dq_46 by_36_48.1.1.2.1.1
theorem dL_law_2357 : decode cL_law 2357 = .ok (.aload_n 0, 1) := dq_42 by_36_48.1.1.2.1.2
theorem dL_law_2358 : decode cL_law 2358 = .ok (.iload 4, 2) := dq_21 by_36_48.1.1.2.2.1 by_36_48.1.1.2.2.2
theorem dL_law_2360 : decode cL_law 2360 = .ok (.iconst 2, 1) := dq_5 by_36_48.1.2.1.1.1
theorem dL_law_2361 : decode cL_law 2361 = .ok (.iadd, 1) := dq_96 by_36_48.1.2.1.1.2
theorem dL_law_2362 : decode cL_law 2362 = .ok (.iaload, 1) := dq_46 by_36_48.1.2.1.2.1
theorem dL_law_2363 : decode cL_law 2363 = .ok (.invokevirtual 369, 3) := dq_182 by_36_48.1.2.1.2.2 by_36_48.1.2.2.1.1 by_36_48.1.2.2.1.2 rfl
theorem dL_law_2366 : decode cL_law 2366 = .ok (.istore 6, 2) := dq_54 by_36_48.1.2.2.2.1 by_36_48.1.2.2.2.2
theorem dL_law_2368 : decode cL_law 2368 = .ok (.goto 97, 3) := dq_167 by_37_0.1.1.1.1.1 by_37_0.1.1.1.1.2 by_37_0.1.1.1.2.1 (by decide)
theorem dL_law_2371 : decode cL_law 2371 = .ok (.aload_n 1, 1) := dq_43 by_37_0.1.1.1.2.2
theorem dL_law_2372 : decode cL_law 2372 = .ok (.aload_n 0, 1) := dq_42 by_37_0.1.1.2.1.1
theorem dL_law_2373 : decode cL_law 2373 = .ok (.iload 4, 2) := dq_21 by_37_0.1.1.2.1.2 by_37_0.1.1.2.2.1
theorem dL_law_2375 : decode cL_law 2375 = .ok (.iconst 1, 1) := dq_4 by_37_0.1.1.2.2.2
theorem dL_law_2376 : decode cL_law 2376 = .ok (.iadd, 1) := dq_96 by_37_0.1.2.1.1.1
theorem dL_law_2377 : decode cL_law 2377 = .ok (.iaload, 1) := dq_46 by_37_0.1.2.1.1.2
theorem dL_law_2378 : decode cL_law 2378 = .ok (.aload_n 0, 1) := dq_42 by_37_0.1.2.1.2.1
theorem dL_law_2379 : decode cL_law 2379 = .ok (.iload 4, 2) := dq_21 by_37_0.1.2.1.2.2 by_37_0.1.2.2.1.1
theorem dL_law_2381 : decode cL_law 2381 = .ok (.iconst 2, 1) := dq_5 by_37_0.1.2.2.1.2
theorem dL_law_2382 : decode cL_law 2382 = .ok (.iadd, 1) := dq_96 by_37_0.1.2.2.2.1
theorem dL_law_2383 : decode cL_law 2383 = .ok (.iaload, 1) := dq_46 by_37_0.1.2.2.2.2
theorem dL_law_2384 : decode cL_law 2384 = .ok (.aload_n 3, 1) := dq_45 by_37_16.1.1.1.1.1
theorem dL_law_2385 : decode cL_law 2385 = .ok (.invokestatic 370, 3) := dq_184 by_37_16.1.1.1.1.2 by_37_16.1.1.1.2.1 by_37_16.1.1.1.2.2 rfl
theorem dL_law_2388 : decode cL_law 2388 = .ok (.istore 5, 2) := dq_54 by_37_16.1.1.2.1.1 by_37_16.1.1.2.1.2
theorem dL_law_2390 : decode cL_law 2390 = .ok (.aload_n 2, 1) := dq_44 by_37_16.1.1.2.2.1
theorem dL_law_2391 : decode cL_law 2391 = .ok (.aload_n 0, 1) := dq_42 by_37_16.1.1.2.2.2
theorem dL_law_2392 : decode cL_law 2392 = .ok (.iload 4, 2) := dq_21 by_37_16.1.2.1.1.1 by_37_16.1.2.1.1.2
theorem dL_law_2394 : decode cL_law 2394 = .ok (.iconst 1, 1) := dq_4 by_37_16.1.2.1.2.1
theorem dL_law_2395 : decode cL_law 2395 = .ok (.iadd, 1) := dq_96 by_37_16.1.2.1.2.2
theorem dL_law_2396 : decode cL_law 2396 = .ok (.iaload, 1) := dq_46 by_37_16.1.2.2.1.1
theorem dL_law_2397 : decode cL_law 2397 = .ok (.aload_n 0, 1) := dq_42 by_37_16.1.2.2.1.2
theorem dL_law_2398 : decode cL_law 2398 = .ok (.iload 4, 2) := dq_21 by_37_16.1.2.2.2.1 by_37_16.1.2.2.2.2
theorem dL_law_2400 : decode cL_law 2400 = .ok (.iconst 2, 1) := dq_5 by_37_32.1.1.1.1.1
theorem dL_law_2401 : decode cL_law 2401 = .ok (.iadd, 1) := dq_96 by_37_32.1.1.1.1.2
theorem dL_law_2402 : decode cL_law 2402 = .ok (.iaload, 1) := dq_46 by_37_32.1.1.1.2.1
theorem dL_law_2403 : decode cL_law 2403 = .ok (.invokevirtual 372, 3) := dq_182 by_37_32.1.1.1.2.2 by_37_32.1.1.2.1.1 by_37_32.1.1.2.1.2 rfl
theorem dL_law_2406 : decode cL_law 2406 = .ok (.istore 6, 2) := dq_54 by_37_32.1.1.2.2.1 by_37_32.1.1.2.2.2
theorem dL_law_2408 : decode cL_law 2408 = .ok (.goto 57, 3) := dq_167 by_37_32.1.2.1.1.1 by_37_32.1.2.1.1.2 by_37_32.1.2.1.2.1 (by decide)
theorem dL_law_2411 : decode cL_law 2411 = .ok (.aload_n 1, 1) := dq_43 by_37_32.1.2.1.2.2
theorem dL_law_2412 : decode cL_law 2412 = .ok (.aload_n 0, 1) := dq_42 by_37_32.1.2.2.1.1
theorem dL_law_2413 : decode cL_law 2413 = .ok (.iload 4, 2) := dq_21 by_37_32.1.2.2.1.2 by_37_32.1.2.2.2.1
theorem dL_law_2415 : decode cL_law 2415 = .ok (.iconst 1, 1) := dq_4 by_37_32.1.2.2.2.2
theorem dL_law_2416 : decode cL_law 2416 = .ok (.iadd, 1) := dq_96 by_37_48.1.1.1.1.1
theorem dL_law_2417 : decode cL_law 2417 = .ok (.iaload, 1) := dq_46 by_37_48.1.1.1.1.2
theorem dL_law_2418 : decode cL_law 2418 = .ok (.aload_n 3, 1) := dq_45 by_37_48.1.1.1.2.1
theorem dL_law_2419 : decode cL_law 2419 = .ok (.invokestatic 373, 3) := dq_184 by_37_48.1.1.1.2.2 by_37_48.1.1.2.1.1 by_37_48.1.1.2.1.2 rfl
theorem dL_law_2422 : decode cL_law 2422 = .ok (.istore 5, 2) := dq_54 by_37_48.1.1.2.2.1 by_37_48.1.1.2.2.2
theorem dL_law_2424 : decode cL_law 2424 = .ok (.aload_n 2, 1) := dq_44 by_37_48.1.2.1.1.1
theorem dL_law_2425 : decode cL_law 2425 = .ok (.aload_n 0, 1) := dq_42 by_37_48.1.2.1.1.2
theorem dL_law_2426 : decode cL_law 2426 = .ok (.iload 4, 2) := dq_21 by_37_48.1.2.1.2.1 by_37_48.1.2.1.2.2
theorem dL_law_2428 : decode cL_law 2428 = .ok (.iconst 1, 1) := dq_4 by_37_48.1.2.2.1.1
theorem dL_law_2429 : decode cL_law 2429 = .ok (.iadd, 1) := dq_96 by_37_48.1.2.2.1.2
theorem dL_law_2430 : decode cL_law 2430 = .ok (.iaload, 1) := dq_46 by_37_48.1.2.2.2.1
theorem dL_law_2431 : decode cL_law 2431 = .ok (.invokevirtual 375, 3) := dq_182 by_37_48.1.2.2.2.2 by_38_0.1.1.1.1.1 by_38_0.1.1.1.1.2 rfl
theorem dL_law_2434 : decode cL_law 2434 = .ok (.istore 6, 2) := dq_54 by_38_0.1.1.1.2.1 by_38_0.1.1.1.2.2
theorem dL_law_2436 : decode cL_law 2436 = .ok (.goto 29, 3) := dq_167 by_38_0.1.1.2.1.1 by_38_0.1.1.2.1.2 by_38_0.1.1.2.2.1 (by decide)
theorem dL_law_2439 : decode cL_law 2439 = .ok (.aload_n 1, 1) := dq_43 by_38_0.1.1.2.2.2
theorem dL_law_2440 : decode cL_law 2440 = .ok (.invokevirtual 376, 3) := dq_182 by_38_0.1.2.1.1.1 by_38_0.1.2.1.1.2 by_38_0.1.2.1.2.1 rfl
theorem dL_law_2443 : decode cL_law 2443 = .ok (.pop, 1) := dq_87 by_38_0.1.2.1.2.2
theorem dL_law_2444 : decode cL_law 2444 = .ok (.aload_n 2, 1) := dq_44 by_38_0.1.2.2.1.1
theorem dL_law_2445 : decode cL_law 2445 = .ok (.invokevirtual 380, 3) := dq_182 by_38_0.1.2.2.1.2 by_38_0.1.2.2.2.1 by_38_0.1.2.2.2.2 rfl
theorem dL_law_2448 : decode cL_law 2448 = .ok (.pop, 1) := dq_87 by_38_16.1.1.1.1.1
theorem dL_law_2449 : decode cL_law 2449 = .ok (.goto 16, 3) := dq_167 by_38_16.1.1.1.1.2 by_38_16.1.1.1.2.1 by_38_16.1.1.1.2.2 (by decide)
theorem dL_law_2452 : decode cL_law 2452 = .ok (.aload_n 1, 1) := dq_43 by_38_16.1.1.2.1.1
theorem dL_law_2453 : decode cL_law 2453 = .ok (.invokevirtual 381, 3) := dq_182 by_38_16.1.1.2.1.2 by_38_16.1.1.2.2.1 by_38_16.1.1.2.2.2 rfl
theorem dL_law_2456 : decode cL_law 2456 = .ok (.pop2, 1) := dq_88 by_38_16.1.2.1.1.1
theorem dL_law_2457 : decode cL_law 2457 = .ok (.aload_n 2, 1) := dq_44 by_38_16.1.2.1.1.2
theorem dL_law_2458 : decode cL_law 2458 = .ok (.invokevirtual 385, 3) := dq_182 by_38_16.1.2.1.2.1 by_38_16.1.2.1.2.2 by_38_16.1.2.2.1.1 rfl
theorem dL_law_2461 : decode cL_law 2461 = .ok (.pop2, 1) := dq_88 by_38_16.1.2.2.1.2
theorem dL_law_2462 : decode cL_law 2462 = .ok (.goto 3, 3) := dq_167 by_38_16.1.2.2.2.1 by_38_16.1.2.2.2.2 (bk_38 (j := 32) rfl rfl) (by decide)
def dc_L_law_2465 := dk1 (show dka cL_law [(2465, .iinc 4 6, 3)] = true by decide +kernel)
theorem dL_law_2468 : decode cL_law 2468 = .ok (.goto (-2441), 3) := dq_167 (bk_38 (j := 36) rfl rfl) (bk_38 (j := 37) rfl rfl) (bk_38 (j := 38) rfl rfl) (by decide)
theorem dL_law_2471 : decode cL_law 2471 = .ok (.iconst 1, 1) := dq_4 (bk_38 (j := 39) rfl rfl)
theorem dL_law_2472 : decode cL_law 2472 = .ok (.ireturn, 1) := dq_172 (bk_38 (j := 40) rfl rfl)
def dc_L_lay_0 := dk16 (show dka cL_lay [(0, .aload 6, 2), (2, .aload_n 0, 1), (3, .iload_n 1, 1), (4, .iload_n 2, 1), (5, .iload_n 3, 1), (6, .iload 4, 2), (8, .iload 5, 2), (10, .invokevirtual 7, 3), (13, .i2l, 1), (14, .putfield 13, 3), (17, .goto 15, 3), (20, .astore 7, 2), (22, .iconst 1, 1), (23, .ireturn, 1), (24, .astore 7, 2), (26, .iconst 2, 1)] = true by decide +kernel)
def dc_L_lay_27 := dk8 (show dka cL_lay [(27, .ireturn, 1), (28, .astore 7, 2), (30, .iconst 3, 1), (31, .ireturn, 1), (32, .iconst 0, 1), (33, .ireturn, 1), (33, .ireturn, 1), (33, .ireturn, 1)] = true by decide +kernel)
def dc_L_drop_0 := dk16 (show dka cL_drop [(0, .aload_n 3, 1), (1, .aload_n 0, 1), (2, .iload_n 1, 1), (3, .iload_n 2, 1), (4, .invokevirtual 25, 3), (7, .i2l, 1), (8, .putfield 13, 3), (11, .goto 11, 3), (14, .astore 4, 2), (16, .iconst 1, 1), (17, .ireturn, 1), (18, .astore 4, 2), (20, .iconst 2, 1), (21, .ireturn, 1), (22, .iconst 0, 1), (23, .ireturn, 1)] = true by decide +kernel)
def dc_L_copy_0 := dk16 (show dka cL_copy [(0, .aload_n 3, 1), (1, .aload_n 0, 1), (2, .iload_n 1, 1), (3, .iload_n 2, 1), (4, .invokevirtual 29, 3), (7, .i2l, 1), (8, .putfield 13, 3), (11, .goto 7, 3), (14, .astore 4, 2), (16, .iconst 1, 1), (17, .ireturn, 1), (18, .iconst 0, 1), (19, .ireturn, 1), (19, .ireturn, 1), (19, .ireturn, 1), (19, .ireturn, 1)] = true by decide +kernel)
def dc_L_raise_0 := dk16 (show dka cL_raise [(0, .aload_n 2, 1), (1, .aload_n 0, 1), (2, .iload_n 1, 1), (3, .invokevirtual 32, 3), (6, .i2l, 1), (7, .putfield 13, 3), (10, .goto 6, 3), (13, .astore_n 3, 1), (14, .iconst 1, 1), (15, .ireturn, 1), (16, .iconst 0, 1), (17, .ireturn, 1), (17, .ireturn, 1), (17, .ireturn, 1), (17, .ireturn, 1), (17, .ireturn, 1)] = true by decide +kernel)
def dc_L_sink_0 := dk16 (show dka cL_sink [(0, .aload_n 2, 1), (1, .aload_n 0, 1), (2, .iload_n 1, 1), (3, .invokevirtual 36, 3), (6, .i2l, 1), (7, .putfield 13, 3), (10, .goto 6, 3), (13, .astore_n 3, 1), (14, .iconst 1, 1), (15, .ireturn, 1), (16, .iconst 0, 1), (17, .ireturn, 1), (17, .ireturn, 1), (17, .ireturn, 1), (17, .ireturn, 1), (17, .ireturn, 1)] = true by decide +kernel)
def dc_L_sieve_0 := dk16 (show dka cL_sieve [(0, .aload 4, 2), (2, .aload_n 0, 1), (3, .iload_n 1, 1), (4, .iload_n 2, 1), (5, .iload_n 3, 1), (6, .invokevirtual 39, 3), (9, .i2l, 1), (10, .putfield 13, 3), (13, .goto 11, 3), (16, .astore 5, 2), (18, .iconst 1, 1), (19, .ireturn, 1), (20, .astore 5, 2), (22, .iconst 2, 1), (23, .ireturn, 1), (24, .iconst 0, 1)] = true by decide +kernel)
def dc_L_sieve_25 := dk1 (show dka cL_sieve [(25, .ireturn, 1)] = true by decide +kernel)
def dc_L_strip_0 := dk16 (show dka cL_strip [(0, .aload_n 2, 1), (1, .aload_n 0, 1), (2, .iload_n 1, 1), (3, .invokevirtual 43, 3), (6, .i2l, 1), (7, .putfield 13, 3), (10, .goto 6, 3), (13, .astore_n 3, 1), (14, .iconst 1, 1), (15, .ireturn, 1), (16, .iconst 0, 1), (17, .ireturn, 1), (17, .ireturn, 1), (17, .ireturn, 1), (17, .ireturn, 1), (17, .ireturn, 1)] = true by decide +kernel)
def dc_L_turn_0 := dk16 (show dka cL_turn [(0, .aload_n 2, 1), (1, .aload_n 0, 1), (2, .iload_n 1, 1), (3, .invokevirtual 46, 3), (6, .i2l, 1), (7, .putfield 13, 3), (10, .goto 6, 3), (13, .astore_n 3, 1), (14, .iconst 1, 1), (15, .ireturn, 1), (16, .iconst 0, 1), (17, .ireturn, 1), (17, .ireturn, 1), (17, .ireturn, 1), (17, .ireturn, 1), (17, .ireturn, 1)] = true by decide +kernel)
def dc_L_write_0 := dk16 (show dka cL_write [(0, .aload 4, 2), (2, .aload_n 0, 1), (3, .iload_n 1, 1), (4, .iload_n 2, 1), (5, .iload_n 3, 1), (6, .invokevirtual 49, 3), (9, .i2l, 1), (10, .putfield 13, 3), (13, .goto 11, 3), (16, .astore 5, 2), (18, .iconst 1, 1), (19, .ireturn, 1), (20, .astore 5, 2), (22, .iconst 2, 1), (23, .ireturn, 1), (24, .iconst 0, 1)] = true by decide +kernel)
def dc_L_write_25 := dk1 (show dka cL_write [(25, .ireturn, 1)] = true by decide +kernel)
def dc_L_spell_0 := dk16 (show dka cL_spell [(0, .aload_n 3, 1), (1, .aload_n 0, 1), (2, .iload_n 1, 1), (3, .iload_n 2, 1), (4, .invokevirtual 53, 3), (7, .i2l, 1), (8, .putfield 13, 3), (11, .goto 11, 3), (14, .astore 4, 2), (16, .iconst 1, 1), (17, .ireturn, 1), (18, .astore 4, 2), (20, .iconst 2, 1), (21, .ireturn, 1), (22, .iconst 0, 1), (23, .ireturn, 1)] = true by decide +kernel)
def dc_L_read_0 := dk16 (show dka cL_read [(0, .aload_n 3, 1), (1, .aload_n 0, 1), (2, .iload_n 1, 1), (3, .iload_n 2, 1), (4, .invokevirtual 56, 3), (7, .i2l, 1), (8, .putfield 13, 3), (11, .goto 11, 3), (14, .astore 4, 2), (16, .iconst 1, 1), (17, .ireturn, 1), (18, .astore 4, 2), (20, .iconst 2, 1), (21, .ireturn, 1), (22, .iconst 0, 1), (23, .ireturn, 1)] = true by decide +kernel)
def dc_L_send_0 := dk16 (show dka cL_send [(0, .aload_n 3, 1), (1, .aload_n 0, 1), (2, .iload_n 1, 1), (3, .iload_n 2, 1), (4, .invokevirtual 59, 3), (7, .i2l, 1), (8, .putfield 13, 3), (11, .goto 11, 3), (14, .astore 4, 2), (16, .iconst 1, 1), (17, .ireturn, 1), (18, .astore 4, 2), (20, .iconst 2, 1), (21, .ireturn, 1), (22, .iconst 0, 1), (23, .ireturn, 1)] = true by decide +kernel)
def dc_L_put_0 := dk16 (show dka cL_put [(0, .aload_n 3, 1), (1, .aload_n 0, 1), (2, .iload_n 1, 1), (3, .iload_n 2, 1), (4, .invokevirtual 62, 3), (7, .i2l, 1), (8, .putfield 13, 3), (11, .goto 11, 3), (14, .astore 4, 2), (16, .iconst 1, 1), (17, .ireturn, 1), (18, .astore 4, 2), (20, .iconst 2, 1), (21, .ireturn, 1), (22, .iconst 0, 1), (23, .ireturn, 1)] = true by decide +kernel)
def dc_L_cut_0 := dk16 (show dka cL_cut [(0, .aload_n 3, 1), (1, .aload_n 0, 1), (2, .iload_n 1, 1), (3, .iload_n 2, 1), (4, .invokevirtual 65, 3), (7, .i2l, 1), (8, .putfield 13, 3), (11, .goto 11, 3), (14, .astore 4, 2), (16, .iconst 1, 1), (17, .ireturn, 1), (18, .astore 4, 2), (20, .iconst 2, 1), (21, .ireturn, 1), (22, .iconst 0, 1), (23, .ireturn, 1)] = true by decide +kernel)
def dc_L_flip_0 := dk16 (show dka cL_flip [(0, .aload_n 2, 1), (1, .aload_n 0, 1), (2, .iload_n 1, 1), (3, .invokevirtual 68, 3), (6, .i2l, 1), (7, .putfield 13, 3), (10, .goto 6, 3), (13, .astore_n 3, 1), (14, .iconst 1, 1), (15, .ireturn, 1), (16, .iconst 0, 1), (17, .ireturn, 1), (17, .ireturn, 1), (17, .ireturn, 1), (17, .ireturn, 1), (17, .ireturn, 1)] = true by decide +kernel)
def dc_L_reverse_0 := dk16 (show dka cL_reverse [(0, .aload_n 2, 1), (1, .aload_n 0, 1), (2, .iload_n 1, 1), (3, .invokevirtual 71, 3), (6, .i2l, 1), (7, .putfield 13, 3), (10, .goto 6, 3), (13, .astore_n 3, 1), (14, .iconst 1, 1), (15, .ireturn, 1), (16, .iconst 0, 1), (17, .ireturn, 1), (17, .ireturn, 1), (17, .ireturn, 1), (17, .ireturn, 1), (17, .ireturn, 1)] = true by decide +kernel)
def dc_L_undo_0 := dk16 (show dka cL_undo [(0, .aload_n 1, 1), (1, .aload_n 0, 1), (2, .invokevirtual 74, 3), (5, .i2l, 1), (6, .putfield 13, 3), (9, .goto 6, 3), (12, .astore_n 2, 1), (13, .iconst 1, 1), (14, .ireturn, 1), (15, .iconst 0, 1), (16, .ireturn, 1), (16, .ireturn, 1), (16, .ireturn, 1), (16, .ireturn, 1), (16, .ireturn, 1), (16, .ireturn, 1)] = true by decide +kernel)
def dc_L_isDigit_0 := dk16 (show dka cL_isDigit [(0, .aload_n 2, 1), (1, .aload_n 0, 1), (2, .iload_n 1, 1), (3, .invokevirtual 78, 3), (6, .ifCond .eq 7, 3), (9, .lconst 1, 1), (10, .goto 4, 3), (13, .lconst 0, 1), (14, .putfield 13, 3), (17, .goto 6, 3), (20, .astore_n 3, 1), (21, .iconst 1, 1), (22, .ireturn, 1), (23, .iconst 0, 1), (24, .ireturn, 1), (24, .ireturn, 1)] = true by decide +kernel)
def dc_L_isLetter_0 := dk16 (show dka cL_isLetter [(0, .aload_n 2, 1), (1, .aload_n 0, 1), (2, .iload_n 1, 1), (3, .invokevirtual 82, 3), (6, .ifCond .eq 7, 3), (9, .lconst 1, 1), (10, .goto 4, 3), (13, .lconst 0, 1), (14, .putfield 13, 3), (17, .goto 6, 3), (20, .astore_n 3, 1), (21, .iconst 1, 1), (22, .ireturn, 1), (23, .iconst 0, 1), (24, .ireturn, 1), (24, .ireturn, 1)] = true by decide +kernel)
def dc_L_isLetterOrDigit_0 := dk16 (show dka cL_isLetterOrDigit [(0, .aload_n 2, 1), (1, .aload_n 0, 1), (2, .iload_n 1, 1), (3, .invokevirtual 85, 3), (6, .ifCond .eq 7, 3), (9, .lconst 1, 1), (10, .goto 4, 3), (13, .lconst 0, 1), (14, .putfield 13, 3), (17, .goto 6, 3), (20, .astore_n 3, 1), (21, .iconst 1, 1), (22, .ireturn, 1), (23, .iconst 0, 1), (24, .ireturn, 1), (24, .ireturn, 1)] = true by decide +kernel)
def dc_L_isWhite_0 := dk16 (show dka cL_isWhite [(0, .aload_n 2, 1), (1, .aload_n 0, 1), (2, .iload_n 1, 1), (3, .invokevirtual 88, 3), (6, .ifCond .eq 7, 3), (9, .lconst 1, 1), (10, .goto 4, 3), (13, .lconst 0, 1), (14, .putfield 13, 3), (17, .goto 6, 3), (20, .astore_n 3, 1), (21, .iconst 1, 1), (22, .ireturn, 1), (23, .iconst 0, 1), (24, .ireturn, 1), (24, .ireturn, 1)] = true by decide +kernel)
def dc_L_isGreat_0 := dk16 (show dka cL_isGreat [(0, .aload_n 2, 1), (1, .aload_n 0, 1), (2, .iload_n 1, 1), (3, .invokevirtual 91, 3), (6, .ifCond .eq 7, 3), (9, .lconst 1, 1), (10, .goto 4, 3), (13, .lconst 0, 1), (14, .putfield 13, 3), (17, .goto 6, 3), (20, .astore_n 3, 1), (21, .iconst 1, 1), (22, .ireturn, 1), (23, .iconst 0, 1), (24, .ireturn, 1), (24, .ireturn, 1)] = true by decide +kernel)
def dc_L_kinds_0 := dk16 (show dka cL_kinds [(0, .aload_n 2, 1), (1, .aload_n 0, 1), (2, .iload_n 1, 1), (3, .invokevirtual 94, 3), (6, .i2l, 1), (7, .putfield 13, 3), (10, .goto 6, 3), (13, .astore_n 3, 1), (14, .iconst 1, 1), (15, .ireturn, 1), (16, .iconst 0, 1), (17, .ireturn, 1), (17, .ireturn, 1), (17, .ireturn, 1), (17, .ireturn, 1), (17, .ireturn, 1)] = true by decide +kernel)
def dc_L_upper_0 := dk16 (show dka cL_upper [(0, .aload_n 3, 1), (1, .aload_n 0, 1), (2, .iload_n 1, 1), (3, .iload_n 2, 1), (4, .invokevirtual 97, 3), (7, .i2l, 1), (8, .putfield 13, 3), (11, .goto 7, 3), (14, .astore 4, 2), (16, .iconst 1, 1), (17, .ireturn, 1), (18, .iconst 0, 1), (19, .ireturn, 1), (19, .ireturn, 1), (19, .ireturn, 1), (19, .ireturn, 1)] = true by decide +kernel)
def dc_L_lower_0 := dk16 (show dka cL_lower [(0, .aload_n 3, 1), (1, .aload_n 0, 1), (2, .iload_n 1, 1), (3, .iload_n 2, 1), (4, .invokevirtual 101, 3), (7, .i2l, 1), (8, .putfield 13, 3), (11, .goto 7, 3), (14, .astore 4, 2), (16, .iconst 1, 1), (17, .ireturn, 1), (18, .iconst 0, 1), (19, .ireturn, 1), (19, .ireturn, 1), (19, .ireturn, 1), (19, .ireturn, 1)] = true by decide +kernel)
def dc_L_value_0 := dk16 (show dka cL_value [(0, .aload_n 3, 1), (1, .aload_n 0, 1), (2, .iload_n 1, 1), (3, .iload_n 2, 1), (4, .invokevirtual 104, 3), (7, .i2l, 1), (8, .putfield 13, 3), (11, .goto 7, 3), (14, .astore 4, 2), (16, .iconst 1, 1), (17, .ireturn, 1), (18, .iconst 0, 1), (19, .ireturn, 1), (19, .ireturn, 1), (19, .ireturn, 1), (19, .ireturn, 1)] = true by decide +kernel)
def dc_L_number_0 := dk16 (show dka cL_number [(0, .aload 4, 2), (2, .aload_n 0, 1), (3, .iload_n 1, 1), (4, .iload_n 2, 1), (5, .iload_n 3, 1), (6, .invokevirtual 107, 3), (9, .i2l, 1), (10, .putfield 13, 3), (13, .goto 7, 3), (16, .astore 5, 2), (18, .iconst 1, 1), (19, .ireturn, 1), (20, .iconst 0, 1), (21, .ireturn, 1), (21, .ireturn, 1), (21, .ireturn, 1)] = true by decide +kernel)
def dc_L_length_0 := dk16 (show dka cL_length [(0, .aload_n 2, 1), (1, .aload_n 0, 1), (2, .iload_n 1, 1), (3, .invokevirtual 110, 3), (6, .i2l, 1), (7, .putfield 13, 3), (10, .goto 6, 3), (13, .astore_n 3, 1), (14, .iconst 1, 1), (15, .ireturn, 1), (16, .iconst 0, 1), (17, .ireturn, 1), (17, .ireturn, 1), (17, .ireturn, 1), (17, .ireturn, 1), (17, .ireturn, 1)] = true by decide +kernel)
def dc_L_at_0 := dk16 (show dka cL_at [(0, .aload_n 3, 1), (1, .aload_n 0, 1), (2, .iload_n 1, 1), (3, .iload_n 2, 1), (4, .invokevirtual 113, 3), (7, .i2l, 1), (8, .putfield 13, 3), (11, .goto 7, 3), (14, .astore 4, 2), (16, .iconst 1, 1), (17, .ireturn, 1), (18, .iconst 0, 1), (19, .ireturn, 1), (19, .ireturn, 1), (19, .ireturn, 1), (19, .ireturn, 1)] = true by decide +kernel)
def dc_L_count_0 := dk16 (show dka cL_count [(0, .aload_n 3, 1), (1, .aload_n 0, 1), (2, .iload_n 1, 1), (3, .iload_n 2, 1), (4, .invokevirtual 116, 3), (7, .i2l, 1), (8, .putfield 13, 3), (11, .goto 11, 3), (14, .astore 4, 2), (16, .iconst 1, 1), (17, .ireturn, 1), (18, .astore 4, 2), (20, .iconst 2, 1), (21, .ireturn, 1), (22, .iconst 0, 1), (23, .ireturn, 1)] = true by decide +kernel)
def dc_L_first_0 := dk16 (show dka cL_first [(0, .aload 4, 2), (2, .aload_n 0, 1), (3, .iload_n 1, 1), (4, .iload_n 2, 1), (5, .iload_n 3, 1), (6, .invokevirtual 119, 3), (9, .i2l, 1), (10, .putfield 13, 3), (13, .goto 11, 3), (16, .astore 5, 2), (18, .iconst 1, 1), (19, .ireturn, 1), (20, .astore 5, 2), (22, .iconst 2, 1), (23, .ireturn, 1), (24, .iconst 0, 1)] = true by decide +kernel)
def dc_L_first_25 := dk1 (show dka cL_first [(25, .ireturn, 1)] = true by decide +kernel)
def dc_L_last_0 := dk16 (show dka cL_last [(0, .aload_n 3, 1), (1, .aload_n 0, 1), (2, .iload_n 1, 1), (3, .iload_n 2, 1), (4, .invokevirtual 122, 3), (7, .i2l, 1), (8, .putfield 13, 3), (11, .goto 11, 3), (14, .astore 4, 2), (16, .iconst 1, 1), (17, .ireturn, 1), (18, .astore 4, 2), (20, .iconst 2, 1), (21, .ireturn, 1), (22, .iconst 0, 1), (23, .ireturn, 1)] = true by decide +kernel)
def dc_L_forms_0 := dk16 (show dka cL_forms [(0, .aload_n 2, 1), (1, .aload_n 0, 1), (2, .iload_n 1, 1), (3, .invokevirtual 125, 3), (6, .putfield 129, 3), (9, .goto 6, 3), (12, .astore_n 3, 1), (13, .iconst 1, 1), (14, .ireturn, 1), (15, .iconst 0, 1), (16, .ireturn, 1), (16, .ireturn, 1), (16, .ireturn, 1), (16, .ireturn, 1), (16, .ireturn, 1), (16, .ireturn, 1)] = true by decide +kernel)
def dc_L_spelled_0 := dk16 (show dka cL_spelled [(0, .aload_n 2, 1), (1, .aload_n 0, 1), (2, .iload_n 1, 1), (3, .invokevirtual 133, 3), (6, .putfield 129, 3), (9, .goto 6, 3), (12, .astore_n 3, 1), (13, .iconst 1, 1), (14, .ireturn, 1), (15, .iconst 0, 1), (16, .ireturn, 1), (16, .ireturn, 1), (16, .ireturn, 1), (16, .ireturn, 1), (16, .ireturn, 1), (16, .ireturn, 1)] = true by decide +kernel)
def dc_L_told_0 := dk16 (show dka cL_told [(0, .aload_n 3, 1), (1, .aload_n 0, 1), (2, .iload_n 1, 1), (3, .iload_n 2, 1), (4, .invokevirtual 136, 3), (7, .i2l, 1), (8, .putfield 13, 3), (11, .goto 11, 3), (14, .astore 4, 2), (16, .iconst 1, 1), (17, .ireturn, 1), (18, .astore 4, 2), (20, .iconst 2, 1), (21, .ireturn, 1), (22, .iconst 0, 1), (23, .ireturn, 1)] = true by decide +kernel)
def dc_L_sum_0 := dk16 (show dka cL_sum [(0, .aload_n 3, 1), (1, .aload_n 0, 1), (2, .iload_n 1, 1), (3, .iload_n 2, 1), (4, .invokevirtual 139, 3), (7, .i2l, 1), (8, .putfield 13, 3), (11, .goto 7, 3), (14, .astore 4, 2), (16, .iconst 1, 1), (17, .ireturn, 1), (18, .iconst 0, 1), (19, .ireturn, 1), (19, .ireturn, 1), (19, .ireturn, 1), (19, .ireturn, 1)] = true by decide +kernel)
def dc_L_values_0 := dk16 (show dka cL_values [(0, .aload_n 2, 1), (1, .aload_n 0, 1), (2, .iload_n 1, 1), (3, .invokevirtual 142, 3), (6, .i2l, 1), (7, .putfield 13, 3), (10, .goto 6, 3), (13, .astore_n 3, 1), (14, .iconst 1, 1), (15, .ireturn, 1), (16, .iconst 0, 1), (17, .ireturn, 1), (17, .ireturn, 1), (17, .ireturn, 1), (17, .ireturn, 1), (17, .ireturn, 1)] = true by decide +kernel)
def dc_L_words_0 := dk16 (show dka cL_words [(0, .aload_n 2, 1), (1, .aload_n 0, 1), (2, .iload_n 1, 1), (3, .invokevirtual 145, 3), (6, .i2l, 1), (7, .putfield 13, 3), (10, .goto 6, 3), (13, .astore_n 3, 1), (14, .iconst 1, 1), (15, .ireturn, 1), (16, .iconst 0, 1), (17, .ireturn, 1), (17, .ireturn, 1), (17, .ireturn, 1), (17, .ireturn, 1), (17, .ireturn, 1)] = true by decide +kernel)
def dc_L_word_0 := dk16 (show dka cL_word [(0, .aload 4, 2), (2, .aload_n 0, 1), (3, .iload_n 1, 1), (4, .iload_n 2, 1), (5, .iload_n 3, 1), (6, .invokevirtual 148, 3), (9, .i2l, 1), (10, .putfield 13, 3), (13, .goto 7, 3), (16, .astore 5, 2), (18, .iconst 1, 1), (19, .ireturn, 1), (20, .iconst 0, 1), (21, .ireturn, 1), (21, .ireturn, 1), (21, .ireturn, 1)] = true by decide +kernel)
def dc_L_isAlike_0 := dk16 (show dka cL_isAlike [(0, .aload_n 3, 1), (1, .aload_n 0, 1), (2, .iload_n 1, 1), (3, .iload_n 2, 1), (4, .invokevirtual 151, 3), (7, .ifCond .eq 7, 3), (10, .lconst 1, 1), (11, .goto 4, 3), (14, .lconst 0, 1), (15, .putfield 13, 3), (18, .goto 7, 3), (21, .astore 4, 2), (23, .iconst 1, 1), (24, .ireturn, 1), (25, .iconst 0, 1), (26, .ireturn, 1)] = true by decide +kernel)
def dc_L_order_0 := dk16 (show dka cL_order [(0, .aload_n 3, 1), (1, .aload_n 0, 1), (2, .iload_n 1, 1), (3, .iload_n 2, 1), (4, .invokevirtual 155, 3), (7, .i2l, 1), (8, .putfield 13, 3), (11, .goto 7, 3), (14, .astore 4, 2), (16, .iconst 1, 1), (17, .ireturn, 1), (18, .iconst 0, 1), (19, .ireturn, 1), (19, .ireturn, 1), (19, .ireturn, 1), (19, .ireturn, 1)] = true by decide +kernel)
def dc_L_half_0 := dk16 (show dka cL_half [(0, .aload_n 3, 1), (1, .aload_n 0, 1), (2, .iload_n 1, 1), (3, .iload_n 2, 1), (4, .invokevirtual 158, 3), (7, .i2l, 1), (8, .putfield 13, 3), (11, .goto 7, 3), (14, .astore 4, 2), (16, .iconst 1, 1), (17, .ireturn, 1), (18, .iconst 0, 1), (19, .ireturn, 1), (19, .ireturn, 1), (19, .ireturn, 1), (19, .ireturn, 1)] = true by decide +kernel)
def dc_L_code_0 := dk16 (show dka cL_code [(0, .aload_n 3, 1), (1, .aload_n 0, 1), (2, .iload_n 1, 1), (3, .iload_n 2, 1), (4, .invokevirtual 161, 3), (7, .i2l, 1), (8, .putfield 13, 3), (11, .goto 7, 3), (14, .astore 4, 2), (16, .iconst 1, 1), (17, .ireturn, 1), (18, .iconst 0, 1), (19, .ireturn, 1), (19, .ireturn, 1), (19, .ireturn, 1), (19, .ireturn, 1)] = true by decide +kernel)
def dc_L_ofUnit_0 := dk16 (show dka cL_ofUnit [(0, .aload_n 3, 1), (1, .aload_n 0, 1), (2, .iload_n 1, 1), (3, .iload_n 2, 1), (4, .invokevirtual 164, 3), (7, .i2l, 1), (8, .putfield 13, 3), (11, .goto 7, 3), (14, .astore 4, 2), (16, .iconst 1, 1), (17, .ireturn, 1), (18, .iconst 0, 1), (19, .ireturn, 1), (19, .ireturn, 1), (19, .ireturn, 1), (19, .ireturn, 1)] = true by decide +kernel)
def dc_L_compare_0 := dk16 (show dka cL_compare [(0, .aload_n 3, 1), (1, .aload_n 0, 1), (2, .iload_n 1, 1), (3, .iload_n 2, 1), (4, .invokevirtual 167, 3), (7, .i2l, 1), (8, .putfield 13, 3), (11, .goto 7, 3), (14, .astore 4, 2), (16, .iconst 1, 1), (17, .ireturn, 1), (18, .iconst 0, 1), (19, .ireturn, 1), (19, .ireturn, 1), (19, .ireturn, 1), (19, .ireturn, 1)] = true by decide +kernel)
def dc_L_ofTrack_0 := dk16 (show dka cL_ofTrack [(0, .aload_n 3, 1), (1, .aload_n 0, 1), (2, .iload_n 1, 1), (3, .iload_n 2, 1), (4, .invokevirtual 170, 3), (7, .i2l, 1), (8, .putfield 13, 3), (11, .goto 11, 3), (14, .astore 4, 2), (16, .iconst 1, 1), (17, .ireturn, 1), (18, .astore 4, 2), (20, .iconst 2, 1), (21, .ireturn, 1), (22, .iconst 0, 1), (23, .ireturn, 1)] = true by decide +kernel)
def dc_L_unit_0 := dk16 (show dka cL_unit [(0, .aload_n 3, 1), (1, .aload_n 0, 1), (2, .iload_n 1, 1), (3, .iload_n 2, 1), (4, .invokevirtual 173, 3), (7, .i2l, 1), (8, .putfield 13, 3), (11, .goto 7, 3), (14, .astore 4, 2), (16, .iconst 1, 1), (17, .ireturn, 1), (18, .iconst 0, 1), (19, .ireturn, 1), (19, .ireturn, 1), (19, .ireturn, 1), (19, .ireturn, 1)] = true by decide +kernel)
def dc_L_codeAt_0 := dk16 (show dka cL_codeAt [(0, .aload_n 3, 1), (1, .aload_n 0, 1), (2, .iload_n 1, 1), (3, .iload_n 2, 1), (4, .invokevirtual 176, 3), (7, .i2l, 1), (8, .putfield 13, 3), (11, .goto 7, 3), (14, .astore 4, 2), (16, .iconst 1, 1), (17, .ireturn, 1), (18, .iconst 0, 1), (19, .ireturn, 1), (19, .ireturn, 1), (19, .ireturn, 1), (19, .ireturn, 1)] = true by decide +kernel)
def dc_L_nth_0 := dk16 (show dka cL_nth [(0, .aload_n 3, 1), (1, .aload_n 0, 1), (2, .iload_n 1, 1), (3, .iload_n 2, 1), (4, .invokevirtual 179, 3), (7, .i2l, 1), (8, .putfield 13, 3), (11, .goto 7, 3), (14, .astore 4, 2), (16, .iconst 1, 1), (17, .ireturn, 1), (18, .iconst 0, 1), (19, .ireturn, 1), (19, .ireturn, 1), (19, .ireturn, 1), (19, .ireturn, 1)] = true by decide +kernel)
def dc_L_house_0 := dk16 (show dka cL_house [(0, .aload_n 2, 1), (1, .aload_n 0, 1), (2, .iload_n 1, 1), (3, .invokevirtual 182, 3), (6, .i2l, 1), (7, .putfield 13, 3), (10, .goto 6, 3), (13, .astore_n 3, 1), (14, .iconst 1, 1), (15, .ireturn, 1), (16, .iconst 0, 1), (17, .ireturn, 1), (17, .ireturn, 1), (17, .ireturn, 1), (17, .ireturn, 1), (17, .ireturn, 1)] = true by decide +kernel)

