/-- the cells of a PeatBog: kind, length, references -/
def ZB : ZT := [(8, 0, [some 1, some 2, some 3, some 4, some 14, some 15, some 17, some 22, none, none, none, none, none, none, none]), (13, 16, [some 28, some 29, some 30, some 31, some 32, some 33, some 34, some 35, some 36, some 37, some 38, some 39, some 40, some 41, some 42, some 43]), (15, 10, [some 44, some 45, some 46, some 47, some 48, some 49, some 50, some 51, some 52, some 53]), (14, 8, [some 54, some 64, some 74, some 84, some 94, some 104, some 114, some 124]), (1, 0, [none, none, none, none, none, some 5, some 6, some 7, some 8, none, some 9, some 10, some 11, some 12, some 13]), (11, 16, []), (11, 16, []), (11, 16, []), (11, 16, []), (11, 16, []), (11, 16, []), (11, 48, []), (11, 48, []), (11, 48, []), (4, 0, [none, none, none, none, none]), (6, 0, [some 16, none]), (10, 500, []), (2, 0, [some 18, none]), (7, 0, [some 15, none, some 19, some 20, some 21, none]), (11, 500, []), (11, 500, []), (11, 500, []), (3, 0, [some 23, some 24, some 25, some 26, some 27, none, none, none]), (11, 16, []), (11, 16, []), (11, 4, []), (11, 4, []), (11, 4, []), (0, 0, [none, none, none, none, none, none, none]), (0, 0, [none, none, none, none, none, none, none]), (0, 0, [none, none, none, none, none, none, none]), (0, 0, [none, none, none, none, none, none, none]), (0, 0, [none, none, none, none, none, none, none]), (0, 0, [none, none, none, none, none, none, none]), (0, 0, [none, none, none, none, none, none, none]), (0, 0, [none, none, none, none, none, none, none]), (0, 0, [none, none, none, none, none, none, none]), (0, 0, [none, none, none, none, none, none, none]), (0, 0, [none, none, none, none, none, none, none]), (0, 0, [none, none, none, none, none, none, none]), (0, 0, [none, none, none, none, none, none, none]), (0, 0, [none, none, none, none, none, none, none]), (0, 0, [none, none, none, none, none, none, none]), (0, 0, [none, none, none, none, none, none, none]), (5, 0, [none, none, none, none, none, none, none, none, none]), (5, 0, [none, none, none, none, none, none, none, none, none]), (5, 0, [none, none, none, none, none, none, none, none, none]), (5, 0, [none, none, none, none, none, none, none, none, none]), (5, 0, [none, none, none, none, none, none, none, none, none]), (5, 0, [none, none, none, none, none, none, none, none, none]), (5, 0, [none, none, none, none, none, none, none, none, none]), (5, 0, [none, none, none, none, none, none, none, none, none]), (5, 0, [none, none, none, none, none, none, none, none, none]), (5, 0, [none, none, none, none, none, none, none, none, none]), (1, 0, [none, none, none, none, none, some 55, some 56, some 57, some 58, none, some 59, some 60, some 61, some 62, some 63]), (11, 16, []), (11, 16, []), (11, 16, []), (11, 16, []), (11, 16, []), (11, 16, []), (11, 48, []), (11, 48, []), (11, 48, []), (1, 0, [none, none, none, none, none, some 65, some 66, some 67, some 68, none, some 69, some 70, some 71, some 72, some 73]), (11, 16, []), (11, 16, []), (11, 16, []), (11, 16, []), (11, 16, []), (11, 16, []), (11, 48, []), (11, 48, []), (11, 48, []), (1, 0, [none, none, none, none, none, some 75, some 76, some 77, some 78, none, some 79, some 80, some 81, some 82, some 83]), (11, 16, []), (11, 16, []), (11, 16, []), (11, 16, []), (11, 16, []), (11, 16, []), (11, 48, []), (11, 48, []), (11, 48, []), (1, 0, [none, none, none, none, none, some 85, some 86, some 87, some 88, none, some 89, some 90, some 91, some 92, some 93]), (11, 16, []), (11, 16, []), (11, 16, []), (11, 16, []), (11, 16, []), (11, 16, []), (11, 48, []), (11, 48, []), (11, 48, []), (1, 0, [none, none, none, none, none, some 95, some 96, some 97, some 98, none, some 99, some 100, some 101, some 102, some 103]), (11, 16, []), (11, 16, []), (11, 16, []), (11, 16, []), (11, 16, []), (11, 16, []), (11, 48, []), (11, 48, []), (11, 48, []), (1, 0, [none, none, none, none, none, some 105, some 106, some 107, some 108, none, some 109, some 110, some 111, some 112, some 113]), (11, 16, []), (11, 16, []), (11, 16, []), (11, 16, []), (11, 16, []), (11, 16, []), (11, 48, []), (11, 48, []), (11, 48, []), (1, 0, [none, none, none, none, none, some 115, some 116, some 117, some 118, none, some 119, some 120, some 121, some 122, some 123]), (11, 16, []), (11, 16, []), (11, 16, []), (11, 16, []), (11, 16, []), (11, 16, []), (11, 48, []), (11, 48, []), (11, 48, []), (1, 0, [none, none, none, none, none, some 125, some 126, some 127, some 128, none, some 129, some 130, some 131, some 132, some 133]), (11, 16, []), (11, 16, []), (11, 16, []), (11, 16, []), (11, 16, []), (11, 16, []), (11, 48, []), (11, 48, []), (11, 48, [])]
theorem zb_0 : ZB[0]? = some (8, 0, [some 1, some 2, some 3, some 4, some 14, some 15, some 17, some 22, none, none, none, none, none, none, none]) := by decide +kernel
theorem zb_1 : ZB[1]? = some (13, 16, [some 28, some 29, some 30, some 31, some 32, some 33, some 34, some 35, some 36, some 37, some 38, some 39, some 40, some 41, some 42, some 43]) := by decide +kernel
theorem zb_2 : ZB[2]? = some (15, 10, [some 44, some 45, some 46, some 47, some 48, some 49, some 50, some 51, some 52, some 53]) := by decide +kernel
theorem zb_3 : ZB[3]? = some (14, 8, [some 54, some 64, some 74, some 84, some 94, some 104, some 114, some 124]) := by decide +kernel
theorem zb_14 : ZB[14]? = some (4, 0, [none, none, none, none, none]) := by decide +kernel
theorem zb_15 : ZB[15]? = some (6, 0, [some 16, none]) := by decide +kernel
theorem zb_16 : ZB[16]? = some (10, 500, []) := by decide +kernel
theorem zb_17 : ZB[17]? = some (2, 0, [some 18, none]) := by decide +kernel
theorem zb_18 : ZB[18]? = some (7, 0, [some 15, none, some 19, some 20, some 21, none]) := by decide +kernel
theorem zb_19 : ZB[19]? = some (11, 500, []) := by decide +kernel
theorem zb_20 : ZB[20]? = some (11, 500, []) := by decide +kernel
theorem zb_21 : ZB[21]? = some (11, 500, []) := by decide +kernel
theorem zb_22 : ZB[22]? = some (3, 0, [some 23, some 24, some 25, some 26, some 27, none, none, none]) := by decide +kernel
theorem zb_23 : ZB[23]? = some (11, 16, []) := by decide +kernel
theorem zb_24 : ZB[24]? = some (11, 16, []) := by decide +kernel
theorem zb_25 : ZB[25]? = some (11, 4, []) := by decide +kernel
theorem zb_26 : ZB[26]? = some (11, 4, []) := by decide +kernel
theorem zb_27 : ZB[27]? = some (11, 4, []) := by decide +kernel
theorem zBay {b : Nat} (h : b < 16) : ZB[28 + b]? = some (0, 0, [none, none, none, none, none, none, none]) := (by decide +kernel : ∀ b, b < 16 → ZB[28 + b]? = some (0, 0, [none, none, none, none, none, none, none])) b h
theorem zStk {b : Nat} (h : b < 10) : ZB[44 + b]? = some (5, 0, [none, none, none, none, none, none, none, none, none]) := (by decide +kernel : ∀ b, b < 10 → ZB[44 + b]? = some (5, 0, [none, none, none, none, none, none, none, none, none])) b h
theorem eBay {b : Nat} (h : b < 16) : List.getD [some 28, some 29, some 30, some 31, some 32, some 33, some 34, some 35, some 36, some 37, some 38, some 39, some 40, some 41, some 42, some 43] b none = some (28 + b) := (by decide +kernel : ∀ b, b < 16 → List.getD [some 28, some 29, some 30, some 31, some 32, some 33, some 34, some 35, some 36, some 37, some 38, some 39, some 40, some 41, some 42, some 43] b (none : Option Nat) = some (28 + b)) b h
theorem eStk {b : Nat} (h : b < 10) : List.getD [some 44, some 45, some 46, some 47, some 48, some 49, some 50, some 51, some 52, some 53] b none = some (44 + b) := (by decide +kernel : ∀ b, b < 10 → List.getD [some 44, some 45, some 46, some 47, some 48, some 49, some 50, some 51, some 52, some 53] b (none : Option Nat) = some (44 + b)) b h
theorem eLaw {b : Nat} (h : b < 8) : List.getD [some 54, some 64, some 74, some 84, some 94, some 104, some 114, some 124] b none = some (54 + 10 * b) := (by decide +kernel : ∀ b, b < 8 → List.getD [some 54, some 64, some 74, some 84, some 94, some 104, some 114, some 124] b (none : Option Nat) = some (54 + 10 * b)) b h
def LawZ (i : Nat) : Prop := i = 4 ∨ ∃ b, b < 8 ∧ i = 54 + 10 * b
theorem zNo : LawZ 4 := Or.inl rfl
theorem zLw {b : Nat} (h : b < 8) : LawZ (54 + 10 * b) := Or.inr ⟨b, h, rfl⟩
theorem zL {i : Nat} (h : LawZ i) : ZB[i]? = some (1, 0, [none, none, none, none, none, some (i + 1), some (i + 2), some (i + 3), some (i + 4), none, some (i + 5), some (i + 6), some (i + 7), some (i + 8), some (i + 9)]) := by
  rcases h with rfl | ⟨b, hb, rfl⟩
  · decide +kernel
  · exact (by decide +kernel : ∀ b, b < 8 → ZB[54 + 10 * b]? = some (1, 0, [none, none, none, none, none, some (54 + 10 * b + 1), some (54 + 10 * b + 2), some (54 + 10 * b + 3), some (54 + 10 * b + 4), none, some (54 + 10 * b + 5), some (54 + 10 * b + 6), some (54 + 10 * b + 7), some (54 + 10 * b + 8), some (54 + 10 * b + 9)])) b hb
theorem zLa_1 {i : Nat} (h : LawZ i) : ZB[i + 1]? = some (11, 16, []) := by
  rcases h with rfl | ⟨b, hb, rfl⟩
  · decide +kernel
  · exact (by decide +kernel : ∀ b, b < 8 → ZB[54 + 10 * b + 1]? = some (11, 16, [])) b hb
theorem zLa_2 {i : Nat} (h : LawZ i) : ZB[i + 2]? = some (11, 16, []) := by
  rcases h with rfl | ⟨b, hb, rfl⟩
  · decide +kernel
  · exact (by decide +kernel : ∀ b, b < 8 → ZB[54 + 10 * b + 2]? = some (11, 16, [])) b hb
theorem zLa_3 {i : Nat} (h : LawZ i) : ZB[i + 3]? = some (11, 16, []) := by
  rcases h with rfl | ⟨b, hb, rfl⟩
  · decide +kernel
  · exact (by decide +kernel : ∀ b, b < 8 → ZB[54 + 10 * b + 3]? = some (11, 16, [])) b hb
theorem zLa_4 {i : Nat} (h : LawZ i) : ZB[i + 4]? = some (11, 16, []) := by
  rcases h with rfl | ⟨b, hb, rfl⟩
  · decide +kernel
  · exact (by decide +kernel : ∀ b, b < 8 → ZB[54 + 10 * b + 4]? = some (11, 16, [])) b hb
theorem zLa_5 {i : Nat} (h : LawZ i) : ZB[i + 5]? = some (11, 16, []) := by
  rcases h with rfl | ⟨b, hb, rfl⟩
  · decide +kernel
  · exact (by decide +kernel : ∀ b, b < 8 → ZB[54 + 10 * b + 5]? = some (11, 16, [])) b hb
theorem zLa_6 {i : Nat} (h : LawZ i) : ZB[i + 6]? = some (11, 16, []) := by
  rcases h with rfl | ⟨b, hb, rfl⟩
  · decide +kernel
  · exact (by decide +kernel : ∀ b, b < 8 → ZB[54 + 10 * b + 6]? = some (11, 16, [])) b hb
theorem zLa_7 {i : Nat} (h : LawZ i) : ZB[i + 7]? = some (11, 48, []) := by
  rcases h with rfl | ⟨b, hb, rfl⟩
  · decide +kernel
  · exact (by decide +kernel : ∀ b, b < 8 → ZB[54 + 10 * b + 7]? = some (11, 48, [])) b hb
theorem zLa_8 {i : Nat} (h : LawZ i) : ZB[i + 8]? = some (11, 48, []) := by
  rcases h with rfl | ⟨b, hb, rfl⟩
  · decide +kernel
  · exact (by decide +kernel : ∀ b, b < 8 → ZB[54 + 10 * b + 8]? = some (11, 48, [])) b hb
theorem zLa_9 {i : Nat} (h : LawZ i) : ZB[i + 9]? = some (11, 48, []) := by
  rcases h with rfl | ⟨b, hb, rfl⟩
  · decide +kernel
  · exact (by decide +kernel : ∀ b, b < 8 → ZB[54 + 10 * b + 9]? = some (11, 48, [])) b hb
