/-! Text.nextToken -/
section
variable {Z : gZ} {I : gI} {J : gJ}
/-- from i on, as long as they are such -/
def rn (p : Int32 → Bool) (t : Nat → Int32) (T : Nat) : Nat → Nat → Nat
  | 0, i => i
  | f + 1, i => if i < T ∧ p (t i) = true then rn p t T f (i + 1) else i
theorem rn_le {p : Int32 → Bool} {t : Nat → Int32} {T : Nat} (f : Nat) : ∀ i, i ≤ T → i ≤ rn p t T f i ∧ rn p t T f i ≤ T := by
  induction f with
  | zero => intro i hi; rw [rn]; omega
  | succ f ih =>
    intro i hi
    rw [rn]
    split
    · rename_i q
      have := ih (i + 1) (by omega)
      omega
    · omega
def isB (x : Int32) : Bool := decide (x = 32)
/-- where the next token starts, where it ends -/
def tkS (t : Nat → Int32) (T e : Nat) : Nat := rn isB t T (T - e) e
def tkE (t : Nat → Int32) (T s : Nat) : Nat := if isL (byN t T s) = true then rn isL t T (T - s) s else if isD (byN t T s) = true then rn isD t T (T - s) s else if s < T then s + 1 else s
theorem by_lt {t : Nat → Int32} {T i : Nat} (h : i < T) : byN t T i = t i := if_pos h
theorem X4_nextToken (hZ : St Z) {T e : Nat} (hT : I 1 1 = nI T) (hT2 : T ≤ 200) (he : I 1 4 = nI e) (he2 : e ≤ T) : g_at 42 0 [.ref 1] [] Z I J = some (none, Z, va_up I 1 (va_up (va_up (I 1) 3 (nI (tkS (I 2) T e))) 4 (nI (tkE (I 2) T (tkS (I 2) T e)))), J) := by
  have k1 : ∀ f i, i ≤ T → T - i ≤ f → g_at 42 8 [.ref 1] [] Z (va_up I 1 (va_up (I 1) 3 (nI i))) J = g_at 42 45 [.ref 1] [] Z (va_up I 1 (va_up (I 1) 3 (nI (rn isB (I 2) T f i)))) J := by
    intro f
    induction f with
    | zero =>
      intro i hi hf
      have f3 : nI T ≤ nI i := nI_le (by omega) (by omega)
      rw [q_42_8, rn]
      simp (decide := true) only [gN1_int, gN1_ref, gN1_null, gN1_long, gTg8_8, gTg8_14, gTg9_9, gTg9_13, gTgA_8, gTgA_9, gTgA_10, gTgA_11, gTgA_13, gTgA_14, gB01_0, gB01_1, gB01_b, List.cons_append, List.nil_append, Option.toList_some, Option.toList_none, Option.bind_some, ↓reduceIte, eq_self, not_true_eq_false, not_false_eq_true, b2i_0, b2i_1, up_eq, up_ne, up_up, up_sort, up_self, fl_at, nI_s, q_42_9, q_42_12, q_42_13, q_42_16, q_42_19, q_42_20, q_42_21, q_42_24, q_42_27, q_42_29, q_42_32, q_42_33, q_42_34, q_42_37, q_42_38, q_42_39, q_42_42, zk_1, zs_1_0, zr_1_0, hZ, hT, f3]
    | succ f ih =>
      intro i hi hf
      rw [q_42_8, rn]
      by_cases q : i < T
      · have f3 : ¬ nI T ≤ nI i := nI_ge q (by omega)
        have hb := X4_byteAt (I := va_up I 1 (va_up (I 1) 3 (nI i))) (J := J) hZ (T := T) (i := i) (by simp (decide := true) only [up_eq, up_ne]; exact hT) hT2 (by omega)
        simp (decide := true) only [up_ne] at hb
        rw [by_lt q] at hb
        by_cases q2 : I 2 i = 32
        · rw [if_pos ⟨q, by simp [isB, q2]⟩]
          rw [q2] at hb
          simp (decide := true) only [gN1_int, gN1_ref, gN1_null, gN1_long, gTg8_8, gTg8_14, gTg9_9, gTg9_13, gTgA_8, gTgA_9, gTgA_10, gTgA_11, gTgA_13, gTgA_14, gB01_0, gB01_1, gB01_b, List.cons_append, List.nil_append, Option.toList_some, Option.toList_none, Option.bind_some, ↓reduceIte, eq_self, not_true_eq_false, not_false_eq_true, b2i_0, b2i_1, up_eq, up_ne, up_up, up_sort, up_self, fl_at, nI_s, q_42_9, q_42_12, q_42_13, q_42_16, q_42_19, q_42_20, q_42_21, q_42_24, q_42_27, q_42_29, q_42_32, q_42_33, q_42_34, q_42_37, q_42_38, q_42_39, q_42_42, zk_1, zs_1_0, zr_1_0, hZ, hT, f3, hb]
          exact ih (i + 1) (by omega) (by omega)
        · rw [if_neg (fun z => q2 (by have := z.2; simp [isB] at this; exact this))]
          simp (decide := true) only [gN1_int, gN1_ref, gN1_null, gN1_long, gTg8_8, gTg8_14, gTg9_9, gTg9_13, gTgA_8, gTgA_9, gTgA_10, gTgA_11, gTgA_13, gTgA_14, gB01_0, gB01_1, gB01_b, List.cons_append, List.nil_append, Option.toList_some, Option.toList_none, Option.bind_some, ↓reduceIte, eq_self, not_true_eq_false, not_false_eq_true, b2i_0, b2i_1, up_eq, up_ne, up_up, up_sort, up_self, fl_at, nI_s, q_42_9, q_42_12, q_42_13, q_42_16, q_42_19, q_42_20, q_42_21, q_42_24, q_42_27, q_42_29, q_42_32, q_42_33, q_42_34, q_42_37, q_42_38, q_42_39, q_42_42, zk_1, zs_1_0, zr_1_0, hZ, hT, f3, hb, q2]
      · have f3 : nI T ≤ nI i := nI_le (by omega) (by omega)
        rw [if_neg (fun z => q z.1)]
        simp (decide := true) only [gN1_int, gN1_ref, gN1_null, gN1_long, gTg8_8, gTg8_14, gTg9_9, gTg9_13, gTgA_8, gTgA_9, gTgA_10, gTgA_11, gTgA_13, gTgA_14, gB01_0, gB01_1, gB01_b, List.cons_append, List.nil_append, Option.toList_some, Option.toList_none, Option.bind_some, ↓reduceIte, eq_self, not_true_eq_false, not_false_eq_true, b2i_0, b2i_1, up_eq, up_ne, up_up, up_sort, up_self, fl_at, nI_s, q_42_9, q_42_12, q_42_13, q_42_16, q_42_19, q_42_20, q_42_21, q_42_24, q_42_27, q_42_29, q_42_32, q_42_33, q_42_34, q_42_37, q_42_38, q_42_39, q_42_42, zk_1, zs_1_0, zr_1_0, hZ, hT, f3]
  have k67 : ∀ s f i, i ≤ T → T - i ≤ f → g_at 42 67 [.ref 1] [] Z (va_up I 1 (va_up (va_up (I 1) 3 s) 4 (nI i))) J = some (none, Z, va_up I 1 (va_up (va_up (I 1) 3 s) 4 (nI (rn isL (I 2) T f i))), J) := by
    intro s f
    induction f with
    | zero =>
      intro i hi hf
      have f3 : nI T ≤ nI i := nI_le (by omega) (by omega)
      rw [q_42_67, rn]
      simp (decide := true) only [gN1_int, gN1_ref, gN1_null, gN1_long, gTg8_8, gTg8_14, gTg9_9, gTg9_13, gTgA_8, gTgA_9, gTgA_10, gTgA_11, gTgA_13, gTgA_14, gB01_0, gB01_1, gB01_b, List.cons_append, List.nil_append, Option.toList_some, Option.toList_none, Option.bind_some, ↓reduceIte, eq_self, not_true_eq_false, not_false_eq_true, b2i_0, b2i_1, up_eq, up_ne, up_up, up_sort, up_self, fl_at, nI_s, q_42_68, q_42_71, q_42_72, q_42_75, q_42_78, q_42_79, q_42_80, q_42_83, q_42_86, q_42_89, q_42_92, q_42_93, q_42_94, q_42_97, q_42_98, q_42_99, q_42_102, q_42_178, zk_1, zs_1_0, zr_1_0, hZ, hT, f3]
    | succ f ih =>
      intro i hi hf
      rw [q_42_67, rn]
      by_cases q : i < T
      · have f3 : ¬ nI T ≤ nI i := nI_ge q (by omega)
        have hb := X4_byteAt (I := va_up I 1 (va_up (va_up (I 1) 3 s) 4 (nI i))) (J := J) hZ (T := T) (i := i) (by simp (decide := true) only [up_eq, up_ne]; exact hT) hT2 (by omega)
        simp (decide := true) only [up_ne] at hb
        rw [by_lt q] at hb
        by_cases q2 : isL (I 2 i) = true
        · rw [if_pos ⟨q, q2⟩]
          simp (decide := true) only [gN1_int, gN1_ref, gN1_null, gN1_long, gTg8_8, gTg8_14, gTg9_9, gTg9_13, gTgA_8, gTgA_9, gTgA_10, gTgA_11, gTgA_13, gTgA_14, gB01_0, gB01_1, gB01_b, List.cons_append, List.nil_append, Option.toList_some, Option.toList_none, Option.bind_some, ↓reduceIte, eq_self, not_true_eq_false, not_false_eq_true, b2i_0, b2i_1, up_eq, up_ne, up_up, up_sort, up_self, fl_at, nI_s, q_42_68, q_42_71, q_42_72, q_42_75, q_42_78, q_42_79, q_42_80, q_42_83, q_42_86, q_42_89, q_42_92, q_42_93, q_42_94, q_42_97, q_42_98, q_42_99, q_42_102, q_42_178, zk_1, zs_1_0, zr_1_0, hZ, hT, f3, hb, X4_isLetter, X4_isDigit, q2, Bool.true_eq_false]
          exact ih (i + 1) (by omega) (by omega)
        · rw [if_neg (fun z => q2 z.2)]
          have q2' : isL (I 2 i) = false := by simpa using q2
          simp (decide := true) only [gN1_int, gN1_ref, gN1_null, gN1_long, gTg8_8, gTg8_14, gTg9_9, gTg9_13, gTgA_8, gTgA_9, gTgA_10, gTgA_11, gTgA_13, gTgA_14, gB01_0, gB01_1, gB01_b, List.cons_append, List.nil_append, Option.toList_some, Option.toList_none, Option.bind_some, ↓reduceIte, eq_self, not_true_eq_false, not_false_eq_true, b2i_0, b2i_1, up_eq, up_ne, up_up, up_sort, up_self, fl_at, nI_s, q_42_68, q_42_71, q_42_72, q_42_75, q_42_78, q_42_79, q_42_80, q_42_83, q_42_86, q_42_89, q_42_92, q_42_93, q_42_94, q_42_97, q_42_98, q_42_99, q_42_102, q_42_178, zk_1, zs_1_0, zr_1_0, hZ, hT, f3, hb, X4_isLetter, X4_isDigit, q2']
      · have f3 : nI T ≤ nI i := nI_le (by omega) (by omega)
        rw [if_neg (fun z => q z.1)]
        simp (decide := true) only [gN1_int, gN1_ref, gN1_null, gN1_long, gTg8_8, gTg8_14, gTg9_9, gTg9_13, gTgA_8, gTgA_9, gTgA_10, gTgA_11, gTgA_13, gTgA_14, gB01_0, gB01_1, gB01_b, List.cons_append, List.nil_append, Option.toList_some, Option.toList_none, Option.bind_some, ↓reduceIte, eq_self, not_true_eq_false, not_false_eq_true, b2i_0, b2i_1, up_eq, up_ne, up_up, up_sort, up_self, fl_at, nI_s, q_42_68, q_42_71, q_42_72, q_42_75, q_42_78, q_42_79, q_42_80, q_42_83, q_42_86, q_42_89, q_42_92, q_42_93, q_42_94, q_42_97, q_42_98, q_42_99, q_42_102, q_42_178, zk_1, zs_1_0, zr_1_0, hZ, hT, f3]
  have k119 : ∀ s f i, i ≤ T → T - i ≤ f → g_at 42 119 [.ref 1] [] Z (va_up I 1 (va_up (va_up (I 1) 3 s) 4 (nI i))) J = some (none, Z, va_up I 1 (va_up (va_up (I 1) 3 s) 4 (nI (rn isD (I 2) T f i))), J) := by
    intro s f
    induction f with
    | zero =>
      intro i hi hf
      have f3 : nI T ≤ nI i := nI_le (by omega) (by omega)
      rw [q_42_119, rn]
      simp (decide := true) only [gN1_int, gN1_ref, gN1_null, gN1_long, gTg8_8, gTg8_14, gTg9_9, gTg9_13, gTgA_8, gTgA_9, gTgA_10, gTgA_11, gTgA_13, gTgA_14, gB01_0, gB01_1, gB01_b, List.cons_append, List.nil_append, Option.toList_some, Option.toList_none, Option.bind_some, ↓reduceIte, eq_self, not_true_eq_false, not_false_eq_true, b2i_0, b2i_1, up_eq, up_ne, up_up, up_sort, up_self, fl_at, nI_s, q_42_120, q_42_123, q_42_124, q_42_127, q_42_130, q_42_131, q_42_132, q_42_135, q_42_138, q_42_141, q_42_144, q_42_145, q_42_146, q_42_149, q_42_150, q_42_151, q_42_154, q_42_178, zk_1, zs_1_0, zr_1_0, hZ, hT, f3]
    | succ f ih =>
      intro i hi hf
      rw [q_42_119, rn]
      by_cases q : i < T
      · have f3 : ¬ nI T ≤ nI i := nI_ge q (by omega)
        have hb := X4_byteAt (I := va_up I 1 (va_up (va_up (I 1) 3 s) 4 (nI i))) (J := J) hZ (T := T) (i := i) (by simp (decide := true) only [up_eq, up_ne]; exact hT) hT2 (by omega)
        simp (decide := true) only [up_ne] at hb
        rw [by_lt q] at hb
        by_cases q2 : isD (I 2 i) = true
        · rw [if_pos ⟨q, q2⟩]
          simp (decide := true) only [gN1_int, gN1_ref, gN1_null, gN1_long, gTg8_8, gTg8_14, gTg9_9, gTg9_13, gTgA_8, gTgA_9, gTgA_10, gTgA_11, gTgA_13, gTgA_14, gB01_0, gB01_1, gB01_b, List.cons_append, List.nil_append, Option.toList_some, Option.toList_none, Option.bind_some, ↓reduceIte, eq_self, not_true_eq_false, not_false_eq_true, b2i_0, b2i_1, up_eq, up_ne, up_up, up_sort, up_self, fl_at, nI_s, q_42_120, q_42_123, q_42_124, q_42_127, q_42_130, q_42_131, q_42_132, q_42_135, q_42_138, q_42_141, q_42_144, q_42_145, q_42_146, q_42_149, q_42_150, q_42_151, q_42_154, q_42_178, zk_1, zs_1_0, zr_1_0, hZ, hT, f3, hb, X4_isLetter, X4_isDigit, q2, Bool.true_eq_false]
          exact ih (i + 1) (by omega) (by omega)
        · rw [if_neg (fun z => q2 z.2)]
          have q2' : isD (I 2 i) = false := by simpa using q2
          simp (decide := true) only [gN1_int, gN1_ref, gN1_null, gN1_long, gTg8_8, gTg8_14, gTg9_9, gTg9_13, gTgA_8, gTgA_9, gTgA_10, gTgA_11, gTgA_13, gTgA_14, gB01_0, gB01_1, gB01_b, List.cons_append, List.nil_append, Option.toList_some, Option.toList_none, Option.bind_some, ↓reduceIte, eq_self, not_true_eq_false, not_false_eq_true, b2i_0, b2i_1, up_eq, up_ne, up_up, up_sort, up_self, fl_at, nI_s, q_42_120, q_42_123, q_42_124, q_42_127, q_42_130, q_42_131, q_42_132, q_42_135, q_42_138, q_42_141, q_42_144, q_42_145, q_42_146, q_42_149, q_42_150, q_42_151, q_42_154, q_42_178, zk_1, zs_1_0, zr_1_0, hZ, hT, f3, hb, X4_isLetter, X4_isDigit, q2']
      · have f3 : nI T ≤ nI i := nI_le (by omega) (by omega)
        rw [if_neg (fun z => q z.1)]
        simp (decide := true) only [gN1_int, gN1_ref, gN1_null, gN1_long, gTg8_8, gTg8_14, gTg9_9, gTg9_13, gTgA_8, gTgA_9, gTgA_10, gTgA_11, gTgA_13, gTgA_14, gB01_0, gB01_1, gB01_b, List.cons_append, List.nil_append, Option.toList_some, Option.toList_none, Option.bind_some, ↓reduceIte, eq_self, not_true_eq_false, not_false_eq_true, b2i_0, b2i_1, up_eq, up_ne, up_up, up_sort, up_self, fl_at, nI_s, q_42_120, q_42_123, q_42_124, q_42_127, q_42_130, q_42_131, q_42_132, q_42_135, q_42_138, q_42_141, q_42_144, q_42_145, q_42_146, q_42_149, q_42_150, q_42_151, q_42_154, q_42_178, zk_1, zs_1_0, zr_1_0, hZ, hT, f3]
  simp (decide := true) only [gN1_int, gN1_ref, gN1_null, gN1_long, gTg8_8, gTg8_14, gTg9_9, gTg9_13, gTgA_8, gTgA_9, gTgA_10, gTgA_11, gTgA_13, gTgA_14, gB01_0, gB01_1, gB01_b, List.cons_append, List.nil_append, Option.toList_some, Option.toList_none, Option.bind_some, ↓reduceIte, eq_self, not_true_eq_false, not_false_eq_true, b2i_0, b2i_1, up_eq, up_ne, up_up, up_sort, up_self, fl_at, nI_s, q_42_0, q_42_1, q_42_2, q_42_5, zk_1, zs_1_0, zr_1_0, hZ, he]
  rw [k1 (T - e) e he2 (Nat.le_refl _)]
  have hs := (rn_le (p := isB) (t := I 2) (T := T) (T - e) e he2).2
  rw [show rn isB (I 2) T (T - e) e = tkS (I 2) T e from rfl] at hs ⊢
  generalize tkS (I 2) T e = s at hs ⊢
  have hb := X4_byteAt (I := va_up I 1 (va_up (va_up (I 1) 3 (nI s)) 4 (nI s))) (J := J) hZ (T := T) (i := s) (by simp (decide := true) only [up_eq, up_ne]; exact hT) hT2 (by omega)
  simp (decide := true) only [up_ne] at hb
  unfold tkE
  by_cases q1 : isL (byN (I 2) T s) = true
  · rw [if_pos q1]
    simp (decide := true) only [gN1_int, gN1_ref, gN1_null, gN1_long, gTg8_8, gTg8_14, gTg9_9, gTg9_13, gTgA_8, gTgA_9, gTgA_10, gTgA_11, gTgA_13, gTgA_14, gB01_0, gB01_1, gB01_b, List.cons_append, List.nil_append, Option.toList_some, Option.toList_none, Option.bind_some, ↓reduceIte, eq_self, not_true_eq_false, not_false_eq_true, b2i_0, b2i_1, up_eq, up_ne, up_up, up_sort, up_self, fl_at, nI_s, q_42_45, q_42_46, q_42_47, q_42_50, q_42_53, q_42_54, q_42_55, q_42_58, q_42_61, q_42_64, zk_1, zs_1_0, zr_1_0, hZ, hT, hb, X4_isLetter, X4_isDigit, q1, Bool.true_eq_false]
    exact k67 _ _ s hs (Nat.le_refl _)
  · rw [if_neg q1]
    have q1' : isL (byN (I 2) T s) = false := by simpa using q1
    by_cases q2 : isD (byN (I 2) T s) = true
    · rw [if_pos q2]
      simp (decide := true) only [gN1_int, gN1_ref, gN1_null, gN1_long, gTg8_8, gTg8_14, gTg9_9, gTg9_13, gTgA_8, gTgA_9, gTgA_10, gTgA_11, gTgA_13, gTgA_14, gB01_0, gB01_1, gB01_b, List.cons_append, List.nil_append, Option.toList_some, Option.toList_none, Option.bind_some, ↓reduceIte, eq_self, not_true_eq_false, not_false_eq_true, b2i_0, b2i_1, up_eq, up_ne, up_up, up_sort, up_self, fl_at, nI_s, q_42_45, q_42_46, q_42_47, q_42_50, q_42_53, q_42_54, q_42_55, q_42_58, q_42_61, q_42_64, q_42_105, q_42_106, q_42_107, q_42_110, q_42_113, q_42_116, zk_1, zs_1_0, zr_1_0, hZ, hT, hb, X4_isLetter, X4_isDigit, q1', q2, Bool.true_eq_false]
      exact k119 _ _ s hs (Nat.le_refl _)
    · rw [if_neg q2]
      have q2' : isD (byN (I 2) T s) = false := by simpa using q2
      by_cases q3 : s < T
      · have f3 : ¬ nI T ≤ nI s := nI_ge q3 (by omega)
        rw [if_pos q3]
        simp (decide := true) only [gN1_int, gN1_ref, gN1_null, gN1_long, gTg8_8, gTg8_14, gTg9_9, gTg9_13, gTgA_8, gTgA_9, gTgA_10, gTgA_11, gTgA_13, gTgA_14, gB01_0, gB01_1, gB01_b, List.cons_append, List.nil_append, Option.toList_some, Option.toList_none, Option.bind_some, ↓reduceIte, eq_self, not_true_eq_false, not_false_eq_true, b2i_0, b2i_1, up_eq, up_ne, up_up, up_sort, up_self, fl_at, nI_s, q_42_45, q_42_46, q_42_47, q_42_50, q_42_53, q_42_54, q_42_55, q_42_58, q_42_61, q_42_64, q_42_105, q_42_106, q_42_107, q_42_110, q_42_113, q_42_116, q_42_157, q_42_158, q_42_161, q_42_162, q_42_165, q_42_168, q_42_169, q_42_170, q_42_173, q_42_174, q_42_175, q_42_178, zk_1, zs_1_0, zr_1_0, hZ, hT, hb, X4_isLetter, X4_isDigit, q1', q2', f3]
      · have f3 : nI T ≤ nI s := nI_le (by omega) (by omega)
        rw [if_neg q3]
        simp (decide := true) only [gN1_int, gN1_ref, gN1_null, gN1_long, gTg8_8, gTg8_14, gTg9_9, gTg9_13, gTgA_8, gTgA_9, gTgA_10, gTgA_11, gTgA_13, gTgA_14, gB01_0, gB01_1, gB01_b, List.cons_append, List.nil_append, Option.toList_some, Option.toList_none, Option.bind_some, ↓reduceIte, eq_self, not_true_eq_false, not_false_eq_true, b2i_0, b2i_1, up_eq, up_ne, up_up, up_sort, up_self, fl_at, nI_s, q_42_45, q_42_46, q_42_47, q_42_50, q_42_53, q_42_54, q_42_55, q_42_58, q_42_61, q_42_64, q_42_105, q_42_106, q_42_107, q_42_110, q_42_113, q_42_116, q_42_157, q_42_158, q_42_161, q_42_162, q_42_165, q_42_168, q_42_169, q_42_170, q_42_173, q_42_174, q_42_175, q_42_178, zk_1, zs_1_0, zr_1_0, hZ, hT, hb, X4_isLetter, X4_isDigit, q1', q2', f3]
end
