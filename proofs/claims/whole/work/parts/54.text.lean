/-! Text: bytes and words -/
section
variable {Z : gZ} {I : gI} {J : gJ}
def isL (x : Int32) : Bool := decide (97 ≤ x) && decide (x ≤ 122)
def isD (x : Int32) : Bool := decide (48 ≤ x) && decide (x ≤ 57)
theorem X4_isLetter {x : Int32} : g_at 47 0 [.int x] [] Z I J = some (some (.int (b2i (isL x))), Z, I, J) := by
  unfold isL
  by_cases h1 : x < 97
  · simp (decide := true) only [gN1_int, gN1_ref, gN1_null, gN1_long, gTg8_8, gTg8_14, gTg9_9, gTg9_13, gTgA_8, gTgA_9, gTgA_10, gTgA_11, gTgA_13, gTgA_14, gB01_0, gB01_1, gB01_b, List.cons_append, List.nil_append, Option.toList_some, Option.toList_none, Option.bind_some, ↓reduceIte, eq_self, not_true_eq_false, not_false_eq_true, b2i_0, b2i_1, up_eq, up_ne, up_up, up_sort, up_self, fl_at, nI_s, q_47_0, q_47_1, q_47_3, q_47_6, q_47_7, q_47_9, q_47_12, q_47_13, q_47_16, q_47_17, h1, Int32.not_le.mpr h1, decide_false, Bool.false_and]
    rfl
  · by_cases h2 : 122 < x
    · simp (decide := true) only [gN1_int, gN1_ref, gN1_null, gN1_long, gTg8_8, gTg8_14, gTg9_9, gTg9_13, gTgA_8, gTgA_9, gTgA_10, gTgA_11, gTgA_13, gTgA_14, gB01_0, gB01_1, gB01_b, List.cons_append, List.nil_append, Option.toList_some, Option.toList_none, Option.bind_some, ↓reduceIte, eq_self, not_true_eq_false, not_false_eq_true, b2i_0, b2i_1, up_eq, up_ne, up_up, up_sort, up_self, fl_at, nI_s, q_47_0, q_47_1, q_47_3, q_47_6, q_47_7, q_47_9, q_47_12, q_47_13, q_47_16, q_47_17, h1, h2, Int32.not_le.mpr h2, decide_false, Bool.and_false]
      rfl
    · simp (decide := true) only [gN1_int, gN1_ref, gN1_null, gN1_long, gTg8_8, gTg8_14, gTg9_9, gTg9_13, gTgA_8, gTgA_9, gTgA_10, gTgA_11, gTgA_13, gTgA_14, gB01_0, gB01_1, gB01_b, List.cons_append, List.nil_append, Option.toList_some, Option.toList_none, Option.bind_some, ↓reduceIte, eq_self, not_true_eq_false, not_false_eq_true, b2i_0, b2i_1, up_eq, up_ne, up_up, up_sort, up_self, fl_at, nI_s, q_47_0, q_47_1, q_47_3, q_47_6, q_47_7, q_47_9, q_47_12, q_47_13, q_47_16, q_47_17, h1, h2, Int32.not_lt.mp h1, Int32.not_lt.mp h2, decide_true, Bool.and_true]
      rfl
theorem X4_isDigit {x : Int32} : g_at 48 0 [.int x] [] Z I J = some (some (.int (b2i (isD x))), Z, I, J) := by
  unfold isD
  by_cases h1 : x < 48
  · simp (decide := true) only [gN1_int, gN1_ref, gN1_null, gN1_long, gTg8_8, gTg8_14, gTg9_9, gTg9_13, gTgA_8, gTgA_9, gTgA_10, gTgA_11, gTgA_13, gTgA_14, gB01_0, gB01_1, gB01_b, List.cons_append, List.nil_append, Option.toList_some, Option.toList_none, Option.bind_some, ↓reduceIte, eq_self, not_true_eq_false, not_false_eq_true, b2i_0, b2i_1, up_eq, up_ne, up_up, up_sort, up_self, fl_at, nI_s, q_48_0, q_48_1, q_48_3, q_48_6, q_48_7, q_48_9, q_48_12, q_48_13, q_48_16, q_48_17, h1, Int32.not_le.mpr h1, decide_false, Bool.false_and]
    rfl
  · by_cases h2 : 57 < x
    · simp (decide := true) only [gN1_int, gN1_ref, gN1_null, gN1_long, gTg8_8, gTg8_14, gTg9_9, gTg9_13, gTgA_8, gTgA_9, gTgA_10, gTgA_11, gTgA_13, gTgA_14, gB01_0, gB01_1, gB01_b, List.cons_append, List.nil_append, Option.toList_some, Option.toList_none, Option.bind_some, ↓reduceIte, eq_self, not_true_eq_false, not_false_eq_true, b2i_0, b2i_1, up_eq, up_ne, up_up, up_sort, up_self, fl_at, nI_s, q_48_0, q_48_1, q_48_3, q_48_6, q_48_7, q_48_9, q_48_12, q_48_13, q_48_16, q_48_17, h1, h2, Int32.not_le.mpr h2, decide_false, Bool.and_false]
      rfl
    · simp (decide := true) only [gN1_int, gN1_ref, gN1_null, gN1_long, gTg8_8, gTg8_14, gTg9_9, gTg9_13, gTgA_8, gTgA_9, gTgA_10, gTgA_11, gTgA_13, gTgA_14, gB01_0, gB01_1, gB01_b, List.cons_append, List.nil_append, Option.toList_some, Option.toList_none, Option.bind_some, ↓reduceIte, eq_self, not_true_eq_false, not_false_eq_true, b2i_0, b2i_1, up_eq, up_ne, up_up, up_sort, up_self, fl_at, nI_s, q_48_0, q_48_1, q_48_3, q_48_6, q_48_7, q_48_9, q_48_12, q_48_13, q_48_16, q_48_17, h1, h2, Int32.not_lt.mp h1, Int32.not_lt.mp h2, decide_true, Bool.and_true]
      rfl
/-- the byte at a place, or none -/
def byN (t : Nat → Int32) (T i : Nat) : Int32 := if i < T then t i else -1
theorem X4_byteAt (hZ : St Z) {T i : Nat} (hT : I 1 1 = nI T) (hT2 : T ≤ 200) (hi : i < 1000000) : g_at 49 0 [.ref 1, .int (nI i)] [] Z I J = some (some (.int (byN (I 2) T i)), Z, I, J) := by
  obtain ⟨f0, f1, f2⟩ := ixs (j := i) (by omega)
  unfold byN
  by_cases h : i < T
  · have f3 : ¬ nI T ≤ nI i := nI_ge h (by omega)
    have f4 : i < 200 := by omega
    have f5 : ¬ (200 : Int32) ≤ nI i := nI_ge (b := 200) f4 (by omega)
    simp (decide := true) only [gN1_int, gN1_ref, gN1_null, gN1_long, gTg8_8, gTg8_14, gTg9_9, gTg9_13, gTgA_8, gTgA_9, gTgA_10, gTgA_11, gTgA_13, gTgA_14, gB01_0, gB01_1, gB01_b, List.cons_append, List.nil_append, Option.toList_some, Option.toList_none, Option.bind_some, ↓reduceIte, eq_self, not_true_eq_false, not_false_eq_true, b2i_0, b2i_1, up_eq, up_ne, up_up, up_sort, up_self, fl_at, nI_s, q_49_0, q_49_1, q_49_4, q_49_5, q_49_6, q_49_9, q_49_12, q_49_13, q_49_16, q_49_19, q_49_20, q_49_23, q_49_24, q_49_25, q_49_28, q_49_29, zk_1, zk_2, zs_1_0, zr_1_0, hZ, f0, f1, f2, f3, f4, f5, h, hT]
  · have f3 : nI T ≤ nI i := nI_le (by omega) (by omega)
    simp (decide := true) only [gN1_int, gN1_ref, gN1_null, gN1_long, gTg8_8, gTg8_14, gTg9_9, gTg9_13, gTgA_8, gTgA_9, gTgA_10, gTgA_11, gTgA_13, gTgA_14, gB01_0, gB01_1, gB01_b, List.cons_append, List.nil_append, Option.toList_some, Option.toList_none, Option.bind_some, ↓reduceIte, eq_self, not_true_eq_false, not_false_eq_true, b2i_0, b2i_1, up_eq, up_ne, up_up, up_sort, up_self, fl_at, nI_s, q_49_0, q_49_1, q_49_4, q_49_5, q_49_6, q_49_9, q_49_12, q_49_13, q_49_16, q_49_19, q_49_20, q_49_23, q_49_24, q_49_25, q_49_28, q_49_29, zk_1, zk_2, zs_1_0, zr_1_0, hZ, f0, f3, h, hT]
end
