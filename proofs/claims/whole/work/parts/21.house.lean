/-! Cloister: has, canHear, late, of the house (3), the draft (8), the one that is foretold (31) -/
def Cl (Z : gZ) (a h s k d : Nat) : Prop := (gKd Z a).1 = 0 ∧ gRs Z a 0 = true ∧ gRs Z a 1 = true ∧ gRs Z a 2 = true ∧ gRs Z a 3 = true ∧ gRq Z a 0 = h ∧ gRq Z a 1 = s ∧ gRq Z a 2 = k ∧ gRq Z a 3 = d ∧ gKd Z h = (8, 10) ∧ gKd Z s = (8, 10) ∧ gKd Z k = (8, 10) ∧ gKd Z d = (8, 10)
theorem cl_3 {Z : gZ} (hZ : St Z) : Cl Z 3 4 5 6 7 := by simp only [Cl, zk_3, zk_4, zk_5, zk_6, zk_7, zs_3_0, zr_3_0, zs_3_1, zr_3_1, zs_3_2, zr_3_2, zs_3_3, zr_3_3, hZ, and_self]
theorem cl_8 {Z : gZ} (hZ : St Z) : Cl Z 8 9 10 11 12 := by simp only [Cl, zk_8, zk_9, zk_10, zk_11, zk_12, zs_8_0, zr_8_0, zs_8_1, zr_8_1, zs_8_2, zr_8_2, zs_8_3, zr_8_3, hZ, and_self]
theorem cl_31 {Z : gZ} (hZ : St Z) : Cl Z 31 32 33 34 35 := by simp only [Cl, zk_31, zk_32, zk_33, zk_34, zk_35, zs_31_0, zr_31_0, zs_31_1, zr_31_1, zs_31_2, zr_31_2, zs_31_3, zr_31_3, hZ, and_self]
theorem ixs {j : Nat} (h : j < 1000000) : ¬ nI j < 0 ∧ 0 ≤ nI j ∧ (nI j).toNatClampNeg = j := ⟨nI_pos (by omega), nI_pos' (by omega), nI_clamp (by omega)⟩
/-- whether there is such a gong -/
def hasG (n g : Int32) : Bool := decide (0 ≤ g) && decide (g < n)
theorem hasG_iff {n g : Int32} {N : Nat} (hn : n = nI N) (hN : N < 1000000) : hasG n g = true ↔ ∃ j, j < N ∧ g = nI j := by
  subst hn
  unfold hasG
  simp only [Bool.and_eq_true, decide_eq_true_eq]
  constructor
  · rintro ⟨h1, h2⟩
    obtain ⟨j, hj, rfl⟩ := nI_of (Int32.not_lt.mpr h1)
    exact ⟨j, (nI_ltI (by omega) (by omega)).mp h2, rfl⟩
  · rintro ⟨j, hj, rfl⟩
    exact ⟨nI_pos' (by omega), nI_lt hj (by omega)⟩
/-- one can be heard by it -/
def cH (h s k : Nat → Int32) (w : Int32) (j : Nat) : Bool := !decide (h j = -1) && (!decide (k j = 1) && decide (s j ≤ (if w = 1 then 4 else 9)))
/-- LATE -/
def lt_ (k d : Nat → Int32) (w : Int32) (j : Nat) : Int32 := if w = 2 then (if k j = 2 then 2 * d j else d j) + 1 else (if k j = 2 then 2 * d j else d j)
section
variable {Z : gZ} {I : gI} {J : gJ} {a h s k d : Nat}
theorem X0_has (hC : Cl Z a h s k d) {g : Int32} : g_at 3 0 [.ref a, .int g] [] Z I J = some (some (.int (b2i (hasG (I a 4) g))), Z, I, J) := by
  obtain ⟨c0, c1, c2, c3, c4, c5, c6, c7, c8, c9, c10, c11, c12⟩ := hC
  simp (decide := true) only [gN1_int, gN1_ref, gN1_null, gN1_long, gTg8_8, gTg8_14, gTg9_9, gTg9_13, gTgA_8, gTgA_9, gTgA_10, gTgA_11, gTgA_13, gTgA_14, gB01_0, gB01_1, gB01_b, List.cons_append, List.nil_append, Option.toList_some, Option.toList_none, Option.bind_some, ↓reduceIte, eq_self, not_true_eq_false, not_false_eq_true, b2i_0, b2i_1, up_eq, up_ne, up_up, up_sort, up_self, fl_at, nI_s, q_3_0, q_3_1, q_3_4, q_3_5, q_3_6, q_3_9, q_3_12, q_3_13, q_3_16, q_3_17, c0]
  unfold hasG
  by_cases h1 : g < 0
  · have h3 : ¬ 0 ≤ g := Int32.not_le.mpr h1
    simp [h1, h3, b2i]
  · by_cases h2 : I a 4 ≤ g
    · simp [h1, h2, b2i]
    · simp [h1, h2, b2i]
theorem X0_canHear (hC : Cl Z a h s k d) {N j : Nat} {w : Int32} (hN : I a 4 = nI N) (hN2 : N ≤ 10) (hj : j < N) : g_at 4 0 [.ref a, .int (nI j), .int w] [] Z I J = some (some (.int (b2i (cH (I h) (I s) (I k) w j))), Z, I, J) := by
  obtain ⟨c0, c1, c2, c3, c4, c5, c6, c7, c8, c9, c10, c11, c12⟩ := hC
  obtain ⟨f0, f1, f2⟩ := ixs (j := j) (by omega)
  have f3 : ¬ nI N ≤ nI j := nI_ge hj (by omega)
  have f4 : j < 10 := by omega
  simp (decide := true) only [gN1_int, gN1_ref, gN1_null, gN1_long, gTg8_8, gTg8_14, gTg9_9, gTg9_13, gTgA_8, gTgA_9, gTgA_10, gTgA_11, gTgA_13, gTgA_14, gB01_0, gB01_1, gB01_b, List.cons_append, List.nil_append, Option.toList_some, Option.toList_none, Option.bind_some, ↓reduceIte, eq_self, not_true_eq_false, not_false_eq_true, b2i_0, b2i_1, up_eq, up_ne, up_up, up_sort, up_self, fl_at, nI_s, q_4_0, q_4_1, q_4_4, q_4_5, q_4_6, q_4_9, q_4_12, q_4_13, q_4_16, q_4_17, q_4_18, q_4_19, q_4_22, q_4_23, q_4_26, q_4_27, q_4_28, q_4_29, q_4_32, q_4_33, q_4_36, q_4_37, q_4_38, q_4_39, q_4_40, q_4_43, q_4_44, q_4_47, q_4_49, q_4_52, q_4_53, q_4_56, q_4_57, c0, c1, c2, c3, c4, c5, c6, c7, c8, c9, c10, c11, c12, f0, f1, f2, f3, f4, hN]
  unfold cH
  by_cases h1 : I h j = -1
  · simp [h1, b2i]
  · by_cases h2 : I k j = 1
    · simp [h1, h2, b2i]
    · by_cases h3 : w = 1
      · by_cases h4 : I s j ≤ 4
        · simp [h1, h2, h3, h4, b2i, Int32.not_lt.mpr h4]
        · simp [h1, h2, h3, h4, b2i]
      · by_cases h4 : I s j ≤ 9
        · simp [h1, h2, h3, h4, b2i, Int32.not_lt.mpr h4]
        · simp [h1, h2, h3, h4, b2i]
theorem X0_late (hC : Cl Z a h s k d) {j : Nat} {w : Int32} (hj : j < 10) : g_at 5 0 [.ref a, .int (nI j), .int w, .null] [] Z I J = some (some (.int (lt_ (I k) (I d) w j)), Z, I, J) := by
  obtain ⟨c0, c1, c2, c3, c4, c5, c6, c7, c8, c9, c10, c11, c12⟩ := hC
  obtain ⟨f0, f1, f2⟩ := ixs (j := j) (by omega)
  simp (decide := true) only [gN1_int, gN1_ref, gN1_null, gN1_long, gTg8_8, gTg8_14, gTg9_9, gTg9_13, gTgA_8, gTgA_9, gTgA_10, gTgA_11, gTgA_13, gTgA_14, gB01_0, gB01_1, gB01_b, List.cons_append, List.nil_append, Option.toList_some, Option.toList_none, Option.bind_some, ↓reduceIte, eq_self, not_true_eq_false, not_false_eq_true, b2i_0, b2i_1, up_eq, up_ne, up_up, up_sort, up_self, fl_at, nI_s, q_5_0, q_5_1, q_5_4, q_5_5, q_5_6, q_5_7, q_5_10, q_5_11, q_5_12, q_5_15, q_5_16, q_5_17, q_5_18, q_5_21, q_5_22, q_5_25, q_5_26, q_5_27, q_5_28, q_5_29, q_5_30, q_5_33, q_5_34, q_5_35, q_5_36, q_5_39, q_5_40, c0, c1, c2, c3, c4, c5, c6, c7, c8, c9, c10, c11, c12, f0, f1, f2, hj]
  unfold lt_
  by_cases h1 : I k j = 2 <;> by_cases h2 : w = 2 <;> simp [h1, h2]
end
