/-! the reference: nextToken -/
section
variable {Z : gZ} {I : gI} {J : gJ}
def vlN (t : Nat → Int32) (s : Nat) : Nat → Nat
  | 0 => 0
  | n + 1 => 27 * vlN t s n + ((t (s + n)).toNatClampNeg - 96)
def tokL (t : Nat → Int32) (s n : Nat) : Int64 := if n ≤ 9 then Int64.ofNat (vlN t s n) else -4
def nvR (t : Nat → Int32) (s : Nat) : Nat → Int32
  | 0 => 0
  | n + 1 => if n < 2 then 10 * nvR t s n + t (s + n) - 48 else nvR t s n
def tkT (t : Nat → Int32) (T s : Nat) : Int64 := if s < T then (if isL (t s) = true then tokL t s (tkE t T s - s) else if isD (t s) = true then (if tkE t T s - s ≤ 2 then -1 else -4) else if t s = 59 then -3 else -4) else -2
def tkD (t : Nat → Int32) (T s : Nat) : Int32 := if s < T then (if isL (t s) = true then 0 else if isD (t s) = true then nI (tkE t T s - s) else 0) else 0
def tkV (t : Nat → Int32) (T s : Nat) : Int32 := if s < T then (if isL (t s) = true then 0 else if isD (t s) = true then nvR t s (tkE t T s - s) else 0) else 0
theorem l_ofN_add (a b : Nat) : Int64.ofNat a + Int64.ofNat b = Int64.ofNat (a + b) := by
  apply Int64.toBitVec_inj.mp
  apply BitVec.eq_of_toNat_eq
  show (BitVec.ofNat 64 a + BitVec.ofNat 64 b).toNat = (BitVec.ofNat 64 (a + b)).toNat
  simp [BitVec.toNat_add]
theorem l_ofN_mul (a b : Nat) : Int64.ofNat a * Int64.ofNat b = Int64.ofNat (a * b) := by
  apply Int64.toBitVec_inj.mp
  apply BitVec.eq_of_toNat_eq
  show (BitVec.ofNat 64 a * BitVec.ofNat 64 b).toNat = (BitVec.ofNat 64 (a * b)).toNat
  simp [BitVec.toNat_mul, Nat.mul_mod]
theorem isL_ex {x : Int32} (h : isL x = true) : ∃ b, 97 ≤ b ∧ b ≤ 122 ∧ x = nI b := by
  unfold isL at h
  simp only [Bool.and_eq_true, decide_eq_true_eq] at h
  have h5 : 0 ≤ x := Int32.le_trans (by decide) h.1
  obtain ⟨a, ha, e⟩ := nI_of2 (M := nI 122) (n := 122) (nI_toInt (by omega)) (Int32.not_lt.mpr h5) h.2
  refine ⟨a, ?_, ha, e⟩
  have h1 := h.1
  rw [e, show (97 : Int32) = nI 97 from rfl, nI_le_iff (by omega) (by omega)] at h1
  exact h1
theorem c_l64 : ∀ b, b < 128 → (nI b).toInt64 = Int64.ofNat b := by decide +kernel
theorem tokL_s {t : Nat → Int32} {s n : Nat} (hn : n < 9) (h : isL (t (s + n)) = true) : 27 * tokL t s n + (t (s + n)).toInt64 - 96 = tokL t s (n + 1) := by
  obtain ⟨b, h1, h2, e⟩ := isL_ex h
  unfold tokL
  rw [if_pos (show n ≤ 9 by omega), if_pos (show n + 1 ≤ 9 by omega), vlN, e, c_l64 b (by omega), nI_clamp (by omega), show (27 : Int64) = Int64.ofNat 27 from rfl, l_ofN_mul, l_ofN_add]
  have : 27 * vlN t s n + b = 27 * vlN t s n + (b - 96) + 96 := by omega
  rw [this, ← l_ofN_add (27 * vlN t s n + (b - 96)) 96]
  exact Int64.add_sub_cancel _ _
theorem X7_nextToken (hZ : St Z) {T e : Nat} (hT : I 38 7 = nI T) (hT2 : T ≤ 200) (he : I 38 9 = nI e) (he2 : e ≤ T) : g_at 89 0 [.ref 38] [] Z I J = some (none, Z, va_up I 38 (va_up (va_up (va_up (va_up (I 38) 9 (nI (tkN (I 43) T e))) 10 (nI (tkS (I 43) T e))) 12 (tkD (I 43) T (tkS (I 43) T e))) 13 (tkV (I 43) T (tkS (I 43) T e))), va_up J 38 (va_up (J 38) 11 (tkT (I 43) T (tkS (I 43) T e)))) := by
  have k0 : ∀ f i, i ≤ T → T - i ≤ f → g_at 89 0 [.ref 38] [] Z (va_up I 38 (va_up (I 38) 9 (nI i))) J = g_at 89 38 [.ref 38] [] Z (va_up I 38 (va_up (I 38) 9 (nI (rn isB (I 43) T f i)))) J := by
    intro f
    induction f with
    | zero =>
      intro i hi hf
      have f3 : nI T ≤ nI i := nI_le (by omega) (by omega)
      rw [q_89_0, rn]
      simp (decide := true) only [gN1_int, gN1_ref, gN1_null, gN1_long, gTg8_8, gTg8_14, gTg9_9, gTg9_13, gTgA_8, gTgA_9, gTgA_10, gTgA_11, gTgA_13, gTgA_14, gB01_0, gB01_1, gB01_b, List.cons_append, List.nil_append, Option.toList_some, Option.toList_none, Option.bind_some, ↓reduceIte, eq_self, not_true_eq_false, not_false_eq_true, b2i_0, b2i_1, up_eq, up_ne, up_up, up_sort, up_self, fl_at, nI_s, q_89_1, q_89_4, q_89_5, q_89_8, q_89_11, q_89_12, q_89_15, q_89_16, q_89_19, q_89_20, q_89_22, q_89_25, q_89_26, q_89_27, q_89_30, q_89_31, q_89_32, q_89_35, zk_38, zk_43, zs_38_1, zr_38_1, zs_38_2, zr_38_2, zs_38_3, zr_38_3, zs_38_4, zr_38_4, zs_38_8, zr_38_8, zs_38_17, zr_38_17, zs_38_18, zr_38_18, zs_38_19, zr_38_19, zs_38_22, zr_38_22, zs_38_23, zr_38_23, zs_38_25, zr_38_25, zs_38_26, zr_38_26, zs_38_28, zr_38_28, zs_38_29, zr_38_29, hZ, hT, f3]
    | succ f ih =>
      intro i hi hf
      obtain ⟨g0, g1, g2⟩ := ixs (j := i) (by omega)
      rw [q_89_0, rn]
      by_cases q : i < T
      · have f3 : ¬ nI T ≤ nI i := nI_ge q (by omega)
        have f4 : i < 200 := by omega
        by_cases q2 : I 43 i = 32
        · rw [if_pos ⟨q, by simp [isB, q2]⟩]
          simp (decide := true) only [gN1_int, gN1_ref, gN1_null, gN1_long, gTg8_8, gTg8_14, gTg9_9, gTg9_13, gTgA_8, gTgA_9, gTgA_10, gTgA_11, gTgA_13, gTgA_14, gB01_0, gB01_1, gB01_b, List.cons_append, List.nil_append, Option.toList_some, Option.toList_none, Option.bind_some, ↓reduceIte, eq_self, not_true_eq_false, not_false_eq_true, b2i_0, b2i_1, up_eq, up_ne, up_up, up_sort, up_self, fl_at, nI_s, q_89_1, q_89_4, q_89_5, q_89_8, q_89_11, q_89_12, q_89_15, q_89_16, q_89_19, q_89_20, q_89_22, q_89_25, q_89_26, q_89_27, q_89_30, q_89_31, q_89_32, q_89_35, zk_38, zk_43, zs_38_1, zr_38_1, zs_38_2, zr_38_2, zs_38_3, zr_38_3, zs_38_4, zr_38_4, zs_38_8, zr_38_8, zs_38_17, zr_38_17, zs_38_18, zr_38_18, zs_38_19, zr_38_19, zs_38_22, zr_38_22, zs_38_23, zr_38_23, zs_38_25, zr_38_25, zs_38_26, zr_38_26, zs_38_28, zr_38_28, zs_38_29, zr_38_29, hZ, hT, f3, f4, g0, g1, g2, q2]
          exact ih (i + 1) (by omega) (by omega)
        · rw [if_neg (fun z => q2 (by have := z.2; simp [isB] at this; exact this))]
          simp (decide := true) only [gN1_int, gN1_ref, gN1_null, gN1_long, gTg8_8, gTg8_14, gTg9_9, gTg9_13, gTgA_8, gTgA_9, gTgA_10, gTgA_11, gTgA_13, gTgA_14, gB01_0, gB01_1, gB01_b, List.cons_append, List.nil_append, Option.toList_some, Option.toList_none, Option.bind_some, ↓reduceIte, eq_self, not_true_eq_false, not_false_eq_true, b2i_0, b2i_1, up_eq, up_ne, up_up, up_sort, up_self, fl_at, nI_s, q_89_1, q_89_4, q_89_5, q_89_8, q_89_11, q_89_12, q_89_15, q_89_16, q_89_19, q_89_20, q_89_22, q_89_25, q_89_26, q_89_27, q_89_30, q_89_31, q_89_32, q_89_35, zk_38, zk_43, zs_38_1, zr_38_1, zs_38_2, zr_38_2, zs_38_3, zr_38_3, zs_38_4, zr_38_4, zs_38_8, zr_38_8, zs_38_17, zr_38_17, zs_38_18, zr_38_18, zs_38_19, zr_38_19, zs_38_22, zr_38_22, zs_38_23, zr_38_23, zs_38_25, zr_38_25, zs_38_26, zr_38_26, zs_38_28, zr_38_28, zs_38_29, zr_38_29, hZ, hT, f3, f4, g0, g1, g2, q2]
      · have f3 : nI T ≤ nI i := nI_le (by omega) (by omega)
        rw [if_neg (fun z => q z.1)]
        simp (decide := true) only [gN1_int, gN1_ref, gN1_null, gN1_long, gTg8_8, gTg8_14, gTg9_9, gTg9_13, gTgA_8, gTgA_9, gTgA_10, gTgA_11, gTgA_13, gTgA_14, gB01_0, gB01_1, gB01_b, List.cons_append, List.nil_append, Option.toList_some, Option.toList_none, Option.bind_some, ↓reduceIte, eq_self, not_true_eq_false, not_false_eq_true, b2i_0, b2i_1, up_eq, up_ne, up_up, up_sort, up_self, fl_at, nI_s, q_89_1, q_89_4, q_89_5, q_89_8, q_89_11, q_89_12, q_89_15, q_89_16, q_89_19, q_89_20, q_89_22, q_89_25, q_89_26, q_89_27, q_89_30, q_89_31, q_89_32, q_89_35, zk_38, zk_43, zs_38_1, zr_38_1, zs_38_2, zr_38_2, zs_38_3, zr_38_3, zs_38_4, zr_38_4, zs_38_8, zr_38_8, zs_38_17, zr_38_17, zs_38_18, zr_38_18, zs_38_19, zr_38_19, zs_38_22, zr_38_22, zs_38_23, zr_38_23, zs_38_25, zr_38_25, zs_38_26, zr_38_26, zs_38_28, zr_38_28, zs_38_29, zr_38_29, hZ, hT, f3]
  have kL : ∀ s f i, s ≤ i → i ≤ T → T - i ≤ f → g_at 89 101 [.ref 38] [] Z (va_up I 38 (va_up (va_up (va_up (va_up (I 38) 9 (nI i)) 10 (nI s)) 12 (0)) 13 (0))) (va_up J 38 (va_up (J 38) 11 (tokL (I 43) s (i - s)))) = g_at 89 191 [.ref 38] [] Z (va_up I 38 (va_up (va_up (va_up (va_up (I 38) 9 (nI (rn isL (I 43) T f i))) 10 (nI s)) 12 (0)) 13 (0))) (va_up J 38 (va_up (J 38) 11 (tokL (I 43) s (rn isL (I 43) T f i - s)))) := by
    intro s f
    induction f with
    | zero =>
      intro i hs hi hf
      have f3 : nI T ≤ nI i := nI_le (by omega) (by omega)
      rw [q_89_101, rn]
      simp (decide := true) only [gN1_int, gN1_ref, gN1_null, gN1_long, gTg8_8, gTg8_14, gTg9_9, gTg9_13, gTgA_8, gTgA_9, gTgA_10, gTgA_11, gTgA_13, gTgA_14, gB01_0, gB01_1, gB01_b, List.cons_append, List.nil_append, Option.toList_some, Option.toList_none, Option.bind_some, ↓reduceIte, eq_self, not_true_eq_false, not_false_eq_true, b2i_0, b2i_1, up_eq, up_ne, up_up, up_sort, up_self, fl_at, nI_s, q_89_102, q_89_105, q_89_106, q_89_109, q_89_112, q_89_113, q_89_116, q_89_117, q_89_120, q_89_121, q_89_123, q_89_125, q_89_128, q_89_131, q_89_132, q_89_133, q_89_136, q_89_137, q_89_140, q_89_141, q_89_143, q_89_146, q_89_149, q_89_150, q_89_153, q_89_154, q_89_155, q_89_158, q_89_159, q_89_162, q_89_163, q_89_164, q_89_165, q_89_168, q_89_169, q_89_172, q_89_175, q_89_178, q_89_179, q_89_180, q_89_183, q_89_184, q_89_185, q_89_188, zk_38, zk_43, zs_38_1, zr_38_1, zs_38_2, zr_38_2, zs_38_3, zr_38_3, zs_38_4, zr_38_4, zs_38_8, zr_38_8, zs_38_17, zr_38_17, zs_38_18, zr_38_18, zs_38_19, zr_38_19, zs_38_22, zr_38_22, zs_38_23, zr_38_23, zs_38_25, zr_38_25, zs_38_26, zr_38_26, zs_38_28, zr_38_28, zs_38_29, zr_38_29, hZ, hT, f3]
    | succ f ih =>
      intro i hs hi hf
      obtain ⟨g0, g1, g2⟩ := ixs (j := i) (by omega)
      rw [q_89_101, rn]
      by_cases q : i < T
      · have f3 : ¬ nI T ≤ nI i := nI_ge q (by omega)
        have f4 : i < 200 := by omega
        have f5 : nI i - nI s = nI (i - s) := nI_sb hs
        by_cases q2 : isL (I 43 i) = true
        · rw [if_pos ⟨q, q2⟩]
          have q3 : (decide (97 ≤ I 43 i) && decide (I 43 i ≤ 122)) = true := q2
          by_cases q4 : i - s < 9
          · have q5 : ¬ (9 : Int32) ≤ nI (i - s) := nI_ge (b := 9) q4 (by omega)
            have q6 := tokL_s (t := I 43) (s := s) (n := i - s) q4 (by rw [show s + (i - s) = i by omega]; exact q2)
            rw [show s + (i - s) = i by omega, show i - s + 1 = i + 1 - s by omega] at q6
            simp (decide := true) only [gN1_int, gN1_ref, gN1_null, gN1_long, gTg8_8, gTg8_14, gTg9_9, gTg9_13, gTgA_8, gTgA_9, gTgA_10, gTgA_11, gTgA_13, gTgA_14, gB01_0, gB01_1, gB01_b, List.cons_append, List.nil_append, Option.toList_some, Option.toList_none, Option.bind_some, ↓reduceIte, eq_self, not_true_eq_false, not_false_eq_true, b2i_0, b2i_1, up_eq, up_ne, up_up, up_sort, up_self, fl_at, nI_s, q_89_102, q_89_105, q_89_106, q_89_109, q_89_112, q_89_113, q_89_116, q_89_117, q_89_120, q_89_121, q_89_123, q_89_125, q_89_128, q_89_131, q_89_132, q_89_133, q_89_136, q_89_137, q_89_140, q_89_141, q_89_143, q_89_146, q_89_149, q_89_150, q_89_153, q_89_154, q_89_155, q_89_158, q_89_159, q_89_162, q_89_163, q_89_164, q_89_165, q_89_168, q_89_169, q_89_172, q_89_175, q_89_178, q_89_179, q_89_180, q_89_183, q_89_184, q_89_185, q_89_188, zk_38, zk_43, zs_38_1, zr_38_1, zs_38_2, zr_38_2, zs_38_3, zr_38_3, zs_38_4, zr_38_4, zs_38_8, zr_38_8, zs_38_17, zr_38_17, zs_38_18, zr_38_18, zs_38_19, zr_38_19, zs_38_22, zr_38_22, zs_38_23, zr_38_23, zs_38_25, zr_38_25, zs_38_26, zr_38_26, zs_38_28, zr_38_28, zs_38_29, zr_38_29, hZ, hT, f3, f4, f5, g0, g1, g2, X7_in, q3, q5, q6, Bool.true_eq_false]
            exact ih (i + 1) (by omega) (by omega) (by omega)
          · have q5 : (9 : Int32) ≤ nI (i - s) := nI_le (a := 9) (by omega) (by omega)
            have q6 : (-4 : Int64) = tokL (I 43) s (i + 1 - s) := by unfold tokL; rw [if_neg (by omega)]
            simp (decide := true) only [gN1_int, gN1_ref, gN1_null, gN1_long, gTg8_8, gTg8_14, gTg9_9, gTg9_13, gTgA_8, gTgA_9, gTgA_10, gTgA_11, gTgA_13, gTgA_14, gB01_0, gB01_1, gB01_b, List.cons_append, List.nil_append, Option.toList_some, Option.toList_none, Option.bind_some, ↓reduceIte, eq_self, not_true_eq_false, not_false_eq_true, b2i_0, b2i_1, up_eq, up_ne, up_up, up_sort, up_self, fl_at, nI_s, q_89_102, q_89_105, q_89_106, q_89_109, q_89_112, q_89_113, q_89_116, q_89_117, q_89_120, q_89_121, q_89_123, q_89_125, q_89_128, q_89_131, q_89_132, q_89_133, q_89_136, q_89_137, q_89_140, q_89_141, q_89_143, q_89_146, q_89_149, q_89_150, q_89_153, q_89_154, q_89_155, q_89_158, q_89_159, q_89_162, q_89_163, q_89_164, q_89_165, q_89_168, q_89_169, q_89_172, q_89_175, q_89_178, q_89_179, q_89_180, q_89_183, q_89_184, q_89_185, q_89_188, zk_38, zk_43, zs_38_1, zr_38_1, zs_38_2, zr_38_2, zs_38_3, zr_38_3, zs_38_4, zr_38_4, zs_38_8, zr_38_8, zs_38_17, zr_38_17, zs_38_18, zr_38_18, zs_38_19, zr_38_19, zs_38_22, zr_38_22, zs_38_23, zr_38_23, zs_38_25, zr_38_25, zs_38_26, zr_38_26, zs_38_28, zr_38_28, zs_38_29, zr_38_29, hZ, hT, f3, f4, f5, g0, g1, g2, X7_in, q3, q5, Bool.true_eq_false]
            rw [q6]
            exact ih (i + 1) (by omega) (by omega) (by omega)
        · have q3 : (decide (97 ≤ I 43 i) && decide (I 43 i ≤ 122)) = false := eq_false_of_ne_true q2
          rw [if_neg (fun z => q2 z.2)]
          simp (decide := true) only [gN1_int, gN1_ref, gN1_null, gN1_long, gTg8_8, gTg8_14, gTg9_9, gTg9_13, gTgA_8, gTgA_9, gTgA_10, gTgA_11, gTgA_13, gTgA_14, gB01_0, gB01_1, gB01_b, List.cons_append, List.nil_append, Option.toList_some, Option.toList_none, Option.bind_some, ↓reduceIte, eq_self, not_true_eq_false, not_false_eq_true, b2i_0, b2i_1, up_eq, up_ne, up_up, up_sort, up_self, fl_at, nI_s, q_89_102, q_89_105, q_89_106, q_89_109, q_89_112, q_89_113, q_89_116, q_89_117, q_89_120, q_89_121, q_89_123, q_89_125, q_89_128, q_89_131, q_89_132, q_89_133, q_89_136, q_89_137, q_89_140, q_89_141, q_89_143, q_89_146, q_89_149, q_89_150, q_89_153, q_89_154, q_89_155, q_89_158, q_89_159, q_89_162, q_89_163, q_89_164, q_89_165, q_89_168, q_89_169, q_89_172, q_89_175, q_89_178, q_89_179, q_89_180, q_89_183, q_89_184, q_89_185, q_89_188, zk_38, zk_43, zs_38_1, zr_38_1, zs_38_2, zr_38_2, zs_38_3, zr_38_3, zs_38_4, zr_38_4, zs_38_8, zr_38_8, zs_38_17, zr_38_17, zs_38_18, zr_38_18, zs_38_19, zr_38_19, zs_38_22, zr_38_22, zs_38_23, zr_38_23, zs_38_25, zr_38_25, zs_38_26, zr_38_26, zs_38_28, zr_38_28, zs_38_29, zr_38_29, hZ, hT, f3, f4, g0, g1, g2, X7_in, q3]
      · have f3 : nI T ≤ nI i := nI_le (by omega) (by omega)
        rw [if_neg (fun z => q z.1)]
        simp (decide := true) only [gN1_int, gN1_ref, gN1_null, gN1_long, gTg8_8, gTg8_14, gTg9_9, gTg9_13, gTgA_8, gTgA_9, gTgA_10, gTgA_11, gTgA_13, gTgA_14, gB01_0, gB01_1, gB01_b, List.cons_append, List.nil_append, Option.toList_some, Option.toList_none, Option.bind_some, ↓reduceIte, eq_self, not_true_eq_false, not_false_eq_true, b2i_0, b2i_1, up_eq, up_ne, up_up, up_sort, up_self, fl_at, nI_s, q_89_102, q_89_105, q_89_106, q_89_109, q_89_112, q_89_113, q_89_116, q_89_117, q_89_120, q_89_121, q_89_123, q_89_125, q_89_128, q_89_131, q_89_132, q_89_133, q_89_136, q_89_137, q_89_140, q_89_141, q_89_143, q_89_146, q_89_149, q_89_150, q_89_153, q_89_154, q_89_155, q_89_158, q_89_159, q_89_162, q_89_163, q_89_164, q_89_165, q_89_168, q_89_169, q_89_172, q_89_175, q_89_178, q_89_179, q_89_180, q_89_183, q_89_184, q_89_185, q_89_188, zk_38, zk_43, zs_38_1, zr_38_1, zs_38_2, zr_38_2, zs_38_3, zr_38_3, zs_38_4, zr_38_4, zs_38_8, zr_38_8, zs_38_17, zr_38_17, zs_38_18, zr_38_18, zs_38_19, zr_38_19, zs_38_22, zr_38_22, zs_38_23, zr_38_23, zs_38_25, zr_38_25, zs_38_26, zr_38_26, zs_38_28, zr_38_28, zs_38_29, zr_38_29, hZ, hT, f3]
  have kD : ∀ s f i, s ≤ i → i ≤ T → T - i ≤ f → g_at 89 241 [.ref 38] [] Z (va_up I 38 (va_up (va_up (va_up (va_up (I 38) 9 (nI i)) 10 (nI s)) 12 (nI (i - s))) 13 (nvR (I 43) s (i - s)))) J = g_at 89 333 [.ref 38] [] Z (va_up I 38 (va_up (va_up (va_up (va_up (I 38) 9 (nI (rn isD (I 43) T f i))) 10 (nI s)) 12 (nI (rn isD (I 43) T f i - s))) 13 (nvR (I 43) s (rn isD (I 43) T f i - s)))) J := by
    intro s f
    induction f with
    | zero =>
      intro i hs hi hf
      have f3 : nI T ≤ nI i := nI_le (by omega) (by omega)
      rw [q_89_241, rn]
      simp (decide := true) only [gN1_int, gN1_ref, gN1_null, gN1_long, gTg8_8, gTg8_14, gTg9_9, gTg9_13, gTgA_8, gTgA_9, gTgA_10, gTgA_11, gTgA_13, gTgA_14, gB01_0, gB01_1, gB01_b, List.cons_append, List.nil_append, Option.toList_some, Option.toList_none, Option.bind_some, ↓reduceIte, eq_self, not_true_eq_false, not_false_eq_true, b2i_0, b2i_1, up_eq, up_ne, up_up, up_sort, up_self, fl_at, nI_s, q_89_242, q_89_245, q_89_246, q_89_249, q_89_252, q_89_253, q_89_256, q_89_257, q_89_260, q_89_261, q_89_263, q_89_265, q_89_268, q_89_271, q_89_272, q_89_273, q_89_276, q_89_277, q_89_280, q_89_282, q_89_283, q_89_286, q_89_287, q_89_288, q_89_291, q_89_292, q_89_295, q_89_296, q_89_297, q_89_299, q_89_300, q_89_303, q_89_304, q_89_307, q_89_310, q_89_311, q_89_312, q_89_315, q_89_316, q_89_317, q_89_320, q_89_321, q_89_322, q_89_325, q_89_326, q_89_327, q_89_330, zk_38, zk_43, zs_38_1, zr_38_1, zs_38_2, zr_38_2, zs_38_3, zr_38_3, zs_38_4, zr_38_4, zs_38_8, zr_38_8, zs_38_17, zr_38_17, zs_38_18, zr_38_18, zs_38_19, zr_38_19, zs_38_22, zr_38_22, zs_38_23, zr_38_23, zs_38_25, zr_38_25, zs_38_26, zr_38_26, zs_38_28, zr_38_28, zs_38_29, zr_38_29, hZ, hT, f3]
    | succ f ih =>
      intro i hs hi hf
      obtain ⟨g0, g1, g2⟩ := ixs (j := i) (by omega)
      rw [q_89_241, rn]
      by_cases q : i < T
      · have f3 : ¬ nI T ≤ nI i := nI_ge q (by omega)
        have f4 : i < 200 := by omega
        have f5 : i - s + 1 = i + 1 - s := by omega
        by_cases q2 : isD (I 43 i) = true
        · rw [if_pos ⟨q, q2⟩]
          have q3 : (decide (48 ≤ I 43 i) && decide (I 43 i ≤ 57)) = true := q2
          by_cases q4 : i - s < 2
          · have q5 : ¬ (2 : Int32) ≤ nI (i - s) := nI_ge (b := 2) q4 (by omega)
            have q6 : 10 * nvR (I 43) s (i - s) + I 43 i - 48 = nvR (I 43) s (i + 1 - s) := by rw [← f5, nvR, if_pos q4, show s + (i - s) = i by omega]
            simp (decide := true) only [gN1_int, gN1_ref, gN1_null, gN1_long, gTg8_8, gTg8_14, gTg9_9, gTg9_13, gTgA_8, gTgA_9, gTgA_10, gTgA_11, gTgA_13, gTgA_14, gB01_0, gB01_1, gB01_b, List.cons_append, List.nil_append, Option.toList_some, Option.toList_none, Option.bind_some, ↓reduceIte, eq_self, not_true_eq_false, not_false_eq_true, b2i_0, b2i_1, up_eq, up_ne, up_up, up_sort, up_self, fl_at, nI_s, q_89_242, q_89_245, q_89_246, q_89_249, q_89_252, q_89_253, q_89_256, q_89_257, q_89_260, q_89_261, q_89_263, q_89_265, q_89_268, q_89_271, q_89_272, q_89_273, q_89_276, q_89_277, q_89_280, q_89_282, q_89_283, q_89_286, q_89_287, q_89_288, q_89_291, q_89_292, q_89_295, q_89_296, q_89_297, q_89_299, q_89_300, q_89_303, q_89_304, q_89_307, q_89_310, q_89_311, q_89_312, q_89_315, q_89_316, q_89_317, q_89_320, q_89_321, q_89_322, q_89_325, q_89_326, q_89_327, q_89_330, zk_38, zk_43, zs_38_1, zr_38_1, zs_38_2, zr_38_2, zs_38_3, zr_38_3, zs_38_4, zr_38_4, zs_38_8, zr_38_8, zs_38_17, zr_38_17, zs_38_18, zr_38_18, zs_38_19, zr_38_19, zs_38_22, zr_38_22, zs_38_23, zr_38_23, zs_38_25, zr_38_25, zs_38_26, zr_38_26, zs_38_28, zr_38_28, zs_38_29, zr_38_29, hZ, hT, f3, f4, f5, g0, g1, g2, X7_in, q3, q5, q6, Bool.true_eq_false]
            exact ih (i + 1) (by omega) (by omega) (by omega)
          · have q5 : (2 : Int32) ≤ nI (i - s) := nI_le (a := 2) (by omega) (by omega)
            have q6 : nvR (I 43) s (i - s) = nvR (I 43) s (i + 1 - s) := by rw [← f5, nvR, if_neg q4]
            simp (decide := true) only [gN1_int, gN1_ref, gN1_null, gN1_long, gTg8_8, gTg8_14, gTg9_9, gTg9_13, gTgA_8, gTgA_9, gTgA_10, gTgA_11, gTgA_13, gTgA_14, gB01_0, gB01_1, gB01_b, List.cons_append, List.nil_append, Option.toList_some, Option.toList_none, Option.bind_some, ↓reduceIte, eq_self, not_true_eq_false, not_false_eq_true, b2i_0, b2i_1, up_eq, up_ne, up_up, up_sort, up_self, fl_at, nI_s, q_89_242, q_89_245, q_89_246, q_89_249, q_89_252, q_89_253, q_89_256, q_89_257, q_89_260, q_89_261, q_89_263, q_89_265, q_89_268, q_89_271, q_89_272, q_89_273, q_89_276, q_89_277, q_89_280, q_89_282, q_89_283, q_89_286, q_89_287, q_89_288, q_89_291, q_89_292, q_89_295, q_89_296, q_89_297, q_89_299, q_89_300, q_89_303, q_89_304, q_89_307, q_89_310, q_89_311, q_89_312, q_89_315, q_89_316, q_89_317, q_89_320, q_89_321, q_89_322, q_89_325, q_89_326, q_89_327, q_89_330, zk_38, zk_43, zs_38_1, zr_38_1, zs_38_2, zr_38_2, zs_38_3, zr_38_3, zs_38_4, zr_38_4, zs_38_8, zr_38_8, zs_38_17, zr_38_17, zs_38_18, zr_38_18, zs_38_19, zr_38_19, zs_38_22, zr_38_22, zs_38_23, zr_38_23, zs_38_25, zr_38_25, zs_38_26, zr_38_26, zs_38_28, zr_38_28, zs_38_29, zr_38_29, hZ, hT, f3, f4, f5, g0, g1, g2, X7_in, q3, q5, Bool.true_eq_false]
            rw [q6]
            exact ih (i + 1) (by omega) (by omega) (by omega)
        · have q3 : (decide (48 ≤ I 43 i) && decide (I 43 i ≤ 57)) = false := eq_false_of_ne_true q2
          rw [if_neg (fun z => q2 z.2)]
          simp (decide := true) only [gN1_int, gN1_ref, gN1_null, gN1_long, gTg8_8, gTg8_14, gTg9_9, gTg9_13, gTgA_8, gTgA_9, gTgA_10, gTgA_11, gTgA_13, gTgA_14, gB01_0, gB01_1, gB01_b, List.cons_append, List.nil_append, Option.toList_some, Option.toList_none, Option.bind_some, ↓reduceIte, eq_self, not_true_eq_false, not_false_eq_true, b2i_0, b2i_1, up_eq, up_ne, up_up, up_sort, up_self, fl_at, nI_s, q_89_242, q_89_245, q_89_246, q_89_249, q_89_252, q_89_253, q_89_256, q_89_257, q_89_260, q_89_261, q_89_263, q_89_265, q_89_268, q_89_271, q_89_272, q_89_273, q_89_276, q_89_277, q_89_280, q_89_282, q_89_283, q_89_286, q_89_287, q_89_288, q_89_291, q_89_292, q_89_295, q_89_296, q_89_297, q_89_299, q_89_300, q_89_303, q_89_304, q_89_307, q_89_310, q_89_311, q_89_312, q_89_315, q_89_316, q_89_317, q_89_320, q_89_321, q_89_322, q_89_325, q_89_326, q_89_327, q_89_330, zk_38, zk_43, zs_38_1, zr_38_1, zs_38_2, zr_38_2, zs_38_3, zr_38_3, zs_38_4, zr_38_4, zs_38_8, zr_38_8, zs_38_17, zr_38_17, zs_38_18, zr_38_18, zs_38_19, zr_38_19, zs_38_22, zr_38_22, zs_38_23, zr_38_23, zs_38_25, zr_38_25, zs_38_26, zr_38_26, zs_38_28, zr_38_28, zs_38_29, zr_38_29, hZ, hT, f3, f4, g0, g1, g2, X7_in, q3]
      · have f3 : nI T ≤ nI i := nI_le (by omega) (by omega)
        rw [if_neg (fun z => q z.1)]
        simp (decide := true) only [gN1_int, gN1_ref, gN1_null, gN1_long, gTg8_8, gTg8_14, gTg9_9, gTg9_13, gTgA_8, gTgA_9, gTgA_10, gTgA_11, gTgA_13, gTgA_14, gB01_0, gB01_1, gB01_b, List.cons_append, List.nil_append, Option.toList_some, Option.toList_none, Option.bind_some, ↓reduceIte, eq_self, not_true_eq_false, not_false_eq_true, b2i_0, b2i_1, up_eq, up_ne, up_up, up_sort, up_self, fl_at, nI_s, q_89_242, q_89_245, q_89_246, q_89_249, q_89_252, q_89_253, q_89_256, q_89_257, q_89_260, q_89_261, q_89_263, q_89_265, q_89_268, q_89_271, q_89_272, q_89_273, q_89_276, q_89_277, q_89_280, q_89_282, q_89_283, q_89_286, q_89_287, q_89_288, q_89_291, q_89_292, q_89_295, q_89_296, q_89_297, q_89_299, q_89_300, q_89_303, q_89_304, q_89_307, q_89_310, q_89_311, q_89_312, q_89_315, q_89_316, q_89_317, q_89_320, q_89_321, q_89_322, q_89_325, q_89_326, q_89_327, q_89_330, zk_38, zk_43, zs_38_1, zr_38_1, zs_38_2, zr_38_2, zs_38_3, zr_38_3, zs_38_4, zr_38_4, zs_38_8, zr_38_8, zs_38_17, zr_38_17, zs_38_18, zr_38_18, zs_38_19, zr_38_19, zs_38_22, zr_38_22, zs_38_23, zr_38_23, zs_38_25, zr_38_25, zs_38_26, zr_38_26, zs_38_28, zr_38_28, zs_38_29, zr_38_29, hZ, hT, f3]
  have e0 : va_up I 38 (va_up (I 38) 9 (nI e)) = I := by rw [← he, up_self, up_self]
  have h0 := k0 (T - e) e he2 (Nat.le_refl _)
  rw [e0, show rn isB (I 43) T (T - e) e = tkS (I 43) T e from rfl] at h0
  rw [h0]
  obtain ⟨-, b1, b2, b3⟩ := tk_le (I 43) he2
  unfold tkN at b2 b3 ⊢
  generalize tkS (I 43) T e = s at b1 b2 b3 ⊢
  obtain ⟨g0, g1, g2⟩ := ixs (j := s) (by omega)
  unfold tkT tkD tkV
  by_cases q1 : s < T
  · have f3 : ¬ nI s = nI T := fun z => by have := (nI_eq (by omega) (by omega)).mp z; omega
    have f4 : s < 200 := by omega
    simp only [if_pos q1]
    by_cases q2 : isL (I 43 s) = true
    · simp only [if_pos q2]
      have q3 : (decide (97 ≤ I 43 s) && decide (I 43 s ≤ 122)) = true := q2
      have hE : tkE (I 43) T s = rn isL (I 43) T (T - s) s := by unfold tkE; rw [by_lt q1, if_pos q2]
      have h1 := kL s (T - s) s (Nat.le_refl _) b1 (Nat.le_refl _)
      rw [← hE, Nat.sub_self, show tokL (I 43) s 0 = 0 from rfl] at h1
      simp (decide := true) only [gN1_int, gN1_ref, gN1_null, gN1_long, gTg8_8, gTg8_14, gTg9_9, gTg9_13, gTgA_8, gTgA_9, gTgA_10, gTgA_11, gTgA_13, gTgA_14, gB01_0, gB01_1, gB01_b, List.cons_append, List.nil_append, Option.toList_some, Option.toList_none, Option.bind_some, ↓reduceIte, eq_self, not_true_eq_false, not_false_eq_true, b2i_0, b2i_1, up_eq, up_ne, up_up, up_sort, up_self, fl_at, nI_s, q_89_38, q_89_39, q_89_40, q_89_43, q_89_46, q_89_47, q_89_48, q_89_51, q_89_52, q_89_53, q_89_56, q_89_57, q_89_60, q_89_61, q_89_64, q_89_67, q_89_68, q_89_71, q_89_74, q_89_77, q_89_78, q_89_81, q_89_82, q_89_85, q_89_86, q_89_88, q_89_90, q_89_93, q_89_96, q_89_97, q_89_98, zk_38, zk_43, zs_38_1, zr_38_1, zs_38_2, zr_38_2, zs_38_3, zr_38_3, zs_38_4, zr_38_4, zs_38_8, zr_38_8, zs_38_17, zr_38_17, zs_38_18, zr_38_18, zs_38_19, zr_38_19, zs_38_22, zr_38_22, zs_38_23, zr_38_23, zs_38_25, zr_38_25, zs_38_26, zr_38_26, zs_38_28, zr_38_28, zs_38_29, zr_38_29, hZ, hT, f3, f4, g0, g1, g2, X7_in, q3, Bool.true_eq_false]
      rw [h1]
      have f6 : nI (tkE (I 43) T s) - nI s = nI (tkE (I 43) T s - s) := nI_sb b2
      by_cases q4 : tkE (I 43) T s - s ≤ 9
      · have q5 : nI (tkE (I 43) T s - s) ≤ 9 := nI_le (b := 9) q4 (by omega)
        simp (decide := true) only [gN1_int, gN1_ref, gN1_null, gN1_long, gTg8_8, gTg8_14, gTg9_9, gTg9_13, gTgA_8, gTgA_9, gTgA_10, gTgA_11, gTgA_13, gTgA_14, gB01_0, gB01_1, gB01_b, List.cons_append, List.nil_append, Option.toList_some, Option.toList_none, Option.bind_some, ↓reduceIte, eq_self, not_true_eq_false, not_false_eq_true, b2i_0, b2i_1, up_eq, up_ne, up_up, up_sort, up_self, fl_at, nI_s, q_89_191, q_89_192, q_89_193, q_89_196, q_89_197, q_89_200, q_89_201, q_89_203, q_89_206, q_89_209, q_89_212, q_89_213, q_89_216, q_89_219, q_89_394, zk_38, zk_43, zs_38_1, zr_38_1, zs_38_2, zr_38_2, zs_38_3, zr_38_3, zs_38_4, zr_38_4, zs_38_8, zr_38_8, zs_38_17, zr_38_17, zs_38_18, zr_38_18, zs_38_19, zr_38_19, zs_38_22, zr_38_22, zs_38_23, zr_38_23, zs_38_25, zr_38_25, zs_38_26, zr_38_26, zs_38_28, zr_38_28, zs_38_29, zr_38_29, hZ, f6, q5]
      · have q5 : ¬ nI (tkE (I 43) T s - s) ≤ 9 := nI_ge (a := 9) (by omega) (by omega)
        have q6 : tokL (I 43) s (tkE (I 43) T s - s) = -4 := by unfold tokL; rw [if_neg q4]
        simp (decide := true) only [gN1_int, gN1_ref, gN1_null, gN1_long, gTg8_8, gTg8_14, gTg9_9, gTg9_13, gTgA_8, gTgA_9, gTgA_10, gTgA_11, gTgA_13, gTgA_14, gB01_0, gB01_1, gB01_b, List.cons_append, List.nil_append, Option.toList_some, Option.toList_none, Option.bind_some, ↓reduceIte, eq_self, not_true_eq_false, not_false_eq_true, b2i_0, b2i_1, up_eq, up_ne, up_up, up_sort, up_self, fl_at, nI_s, q_89_191, q_89_192, q_89_193, q_89_196, q_89_197, q_89_200, q_89_201, q_89_203, q_89_206, q_89_209, q_89_212, q_89_213, q_89_216, q_89_219, q_89_394, zk_38, zk_43, zs_38_1, zr_38_1, zs_38_2, zr_38_2, zs_38_3, zr_38_3, zs_38_4, zr_38_4, zs_38_8, zr_38_8, zs_38_17, zr_38_17, zs_38_18, zr_38_18, zs_38_19, zr_38_19, zs_38_22, zr_38_22, zs_38_23, zr_38_23, zs_38_25, zr_38_25, zs_38_26, zr_38_26, zs_38_28, zr_38_28, zs_38_29, zr_38_29, hZ, f6, q5, q6]
    · have q3 : (decide (97 ≤ I 43 s) && decide (I 43 s ≤ 122)) = false := eq_false_of_ne_true q2
      simp only [if_neg q2]
      by_cases q4 : isD (I 43 s) = true
      · simp only [if_pos q4]
        have q5 : (decide (48 ≤ I 43 s) && decide (I 43 s ≤ 57)) = true := q4
        have hE : tkE (I 43) T s = rn isD (I 43) T (T - s) s := by unfold tkE; rw [by_lt q1, if_neg q2, if_pos q4]
        have h1 := kD s (T - s) s (Nat.le_refl _) b1 (Nat.le_refl _)
        rw [← hE, Nat.sub_self, nI_0, show nvR (I 43) s 0 = 0 from rfl] at h1
        simp (decide := true) only [gN1_int, gN1_ref, gN1_null, gN1_long, gTg8_8, gTg8_14, gTg9_9, gTg9_13, gTgA_8, gTgA_9, gTgA_10, gTgA_11, gTgA_13, gTgA_14, gB01_0, gB01_1, gB01_b, List.cons_append, List.nil_append, Option.toList_some, Option.toList_none, Option.bind_some, ↓reduceIte, eq_self, not_true_eq_false, not_false_eq_true, b2i_0, b2i_1, up_eq, up_ne, up_up, up_sort, up_self, fl_at, nI_s, q_89_38, q_89_39, q_89_40, q_89_43, q_89_46, q_89_47, q_89_48, q_89_51, q_89_52, q_89_53, q_89_56, q_89_57, q_89_60, q_89_61, q_89_64, q_89_67, q_89_68, q_89_71, q_89_74, q_89_77, q_89_78, q_89_81, q_89_82, q_89_85, q_89_86, q_89_88, q_89_90, q_89_93, q_89_96, q_89_97, q_89_98, q_89_222, q_89_223, q_89_226, q_89_227, q_89_230, q_89_231, q_89_233, q_89_235, q_89_238, zk_38, zk_43, zs_38_1, zr_38_1, zs_38_2, zr_38_2, zs_38_3, zr_38_3, zs_38_4, zr_38_4, zs_38_8, zr_38_8, zs_38_17, zr_38_17, zs_38_18, zr_38_18, zs_38_19, zr_38_19, zs_38_22, zr_38_22, zs_38_23, zr_38_23, zs_38_25, zr_38_25, zs_38_26, zr_38_26, zs_38_28, zr_38_28, zs_38_29, zr_38_29, hZ, hT, f3, f4, g0, g1, g2, X7_in, q3, q5, Bool.true_eq_false]
        rw [h1]
        by_cases q6 : tkE (I 43) T s - s ≤ 2
        · have q7 : nI (tkE (I 43) T s - s) ≤ 2 := nI_le (b := 2) q6 (by omega)
          simp (decide := true) only [gN1_int, gN1_ref, gN1_null, gN1_long, gTg8_8, gTg8_14, gTg9_9, gTg9_13, gTgA_8, gTgA_9, gTgA_10, gTgA_11, gTgA_13, gTgA_14, gB01_0, gB01_1, gB01_b, List.cons_append, List.nil_append, Option.toList_some, Option.toList_none, Option.bind_some, ↓reduceIte, eq_self, not_true_eq_false, not_false_eq_true, b2i_0, b2i_1, up_eq, up_ne, up_up, up_sort, up_self, fl_at, nI_s, q_89_333, q_89_334, q_89_335, q_89_338, q_89_339, q_89_342, q_89_345, q_89_348, q_89_351, q_89_354, q_89_394, zk_38, zk_43, zs_38_1, zr_38_1, zs_38_2, zr_38_2, zs_38_3, zr_38_3, zs_38_4, zr_38_4, zs_38_8, zr_38_8, zs_38_17, zr_38_17, zs_38_18, zr_38_18, zs_38_19, zr_38_19, zs_38_22, zr_38_22, zs_38_23, zr_38_23, zs_38_25, zr_38_25, zs_38_26, zr_38_26, zs_38_28, zr_38_28, zs_38_29, zr_38_29, hZ, q6, q7]
        · have q7 : ¬ nI (tkE (I 43) T s - s) ≤ 2 := nI_ge (a := 2) (by omega) (by omega)
          simp (decide := true) only [gN1_int, gN1_ref, gN1_null, gN1_long, gTg8_8, gTg8_14, gTg9_9, gTg9_13, gTgA_8, gTgA_9, gTgA_10, gTgA_11, gTgA_13, gTgA_14, gB01_0, gB01_1, gB01_b, List.cons_append, List.nil_append, Option.toList_some, Option.toList_none, Option.bind_some, ↓reduceIte, eq_self, not_true_eq_false, not_false_eq_true, b2i_0, b2i_1, up_eq, up_ne, up_up, up_sort, up_self, fl_at, nI_s, q_89_333, q_89_334, q_89_335, q_89_338, q_89_339, q_89_342, q_89_345, q_89_348, q_89_351, q_89_354, q_89_394, zk_38, zk_43, zs_38_1, zr_38_1, zs_38_2, zr_38_2, zs_38_3, zr_38_3, zs_38_4, zr_38_4, zs_38_8, zr_38_8, zs_38_17, zr_38_17, zs_38_18, zr_38_18, zs_38_19, zr_38_19, zs_38_22, zr_38_22, zs_38_23, zr_38_23, zs_38_25, zr_38_25, zs_38_26, zr_38_26, zs_38_28, zr_38_28, zs_38_29, zr_38_29, hZ, q6, q7]
      · have q5 : (decide (48 ≤ I 43 s) && decide (I 43 s ≤ 57)) = false := eq_false_of_ne_true q4
        have hE : tkE (I 43) T s = s + 1 := by unfold tkE; rw [by_lt q1, if_neg q2, if_neg q4, if_pos q1]
        simp only [if_neg q4]
        rw [hE]
        by_cases q6 : I 43 s = 59
        · simp (decide := true) only [gN1_int, gN1_ref, gN1_null, gN1_long, gTg8_8, gTg8_14, gTg9_9, gTg9_13, gTgA_8, gTgA_9, gTgA_10, gTgA_11, gTgA_13, gTgA_14, gB01_0, gB01_1, gB01_b, List.cons_append, List.nil_append, Option.toList_some, Option.toList_none, Option.bind_some, ↓reduceIte, eq_self, not_true_eq_false, not_false_eq_true, b2i_0, b2i_1, up_eq, up_ne, up_up, up_sort, up_self, fl_at, nI_s, q_89_38, q_89_39, q_89_40, q_89_43, q_89_46, q_89_47, q_89_48, q_89_51, q_89_52, q_89_53, q_89_56, q_89_57, q_89_60, q_89_61, q_89_64, q_89_67, q_89_68, q_89_71, q_89_74, q_89_77, q_89_78, q_89_81, q_89_82, q_89_85, q_89_86, q_89_88, q_89_90, q_89_93, q_89_96, q_89_97, q_89_98, q_89_222, q_89_223, q_89_226, q_89_227, q_89_230, q_89_231, q_89_233, q_89_235, q_89_238, q_89_357, q_89_358, q_89_359, q_89_362, q_89_363, q_89_366, q_89_367, q_89_369, q_89_372, q_89_375, q_89_378, q_89_381, q_89_384, q_89_385, q_89_386, q_89_389, q_89_390, q_89_391, q_89_394, zk_38, zk_43, zs_38_1, zr_38_1, zs_38_2, zr_38_2, zs_38_3, zr_38_3, zs_38_4, zr_38_4, zs_38_8, zr_38_8, zs_38_17, zr_38_17, zs_38_18, zr_38_18, zs_38_19, zr_38_19, zs_38_22, zr_38_22, zs_38_23, zr_38_23, zs_38_25, zr_38_25, zs_38_26, zr_38_26, zs_38_28, zr_38_28, zs_38_29, zr_38_29, hZ, hT, f3, f4, g0, g1, g2, X7_in, q3, q5, q6]
        · simp (decide := true) only [gN1_int, gN1_ref, gN1_null, gN1_long, gTg8_8, gTg8_14, gTg9_9, gTg9_13, gTgA_8, gTgA_9, gTgA_10, gTgA_11, gTgA_13, gTgA_14, gB01_0, gB01_1, gB01_b, List.cons_append, List.nil_append, Option.toList_some, Option.toList_none, Option.bind_some, ↓reduceIte, eq_self, not_true_eq_false, not_false_eq_true, b2i_0, b2i_1, up_eq, up_ne, up_up, up_sort, up_self, fl_at, nI_s, q_89_38, q_89_39, q_89_40, q_89_43, q_89_46, q_89_47, q_89_48, q_89_51, q_89_52, q_89_53, q_89_56, q_89_57, q_89_60, q_89_61, q_89_64, q_89_67, q_89_68, q_89_71, q_89_74, q_89_77, q_89_78, q_89_81, q_89_82, q_89_85, q_89_86, q_89_88, q_89_90, q_89_93, q_89_96, q_89_97, q_89_98, q_89_222, q_89_223, q_89_226, q_89_227, q_89_230, q_89_231, q_89_233, q_89_235, q_89_238, q_89_357, q_89_358, q_89_359, q_89_362, q_89_363, q_89_366, q_89_367, q_89_369, q_89_372, q_89_375, q_89_378, q_89_381, q_89_384, q_89_385, q_89_386, q_89_389, q_89_390, q_89_391, q_89_394, zk_38, zk_43, zs_38_1, zr_38_1, zs_38_2, zr_38_2, zs_38_3, zr_38_3, zs_38_4, zr_38_4, zs_38_8, zr_38_8, zs_38_17, zr_38_17, zs_38_18, zr_38_18, zs_38_19, zr_38_19, zs_38_22, zr_38_22, zs_38_23, zr_38_23, zs_38_25, zr_38_25, zs_38_26, zr_38_26, zs_38_28, zr_38_28, zs_38_29, zr_38_29, hZ, hT, f3, f4, g0, g1, g2, X7_in, q3, q5, q6]
  · have es : s = T := by omega
    have hE : tkE (I 43) T s = s := by
      unfold tkE
      have eb : byN (I 43) T s = -1 := if_neg q1
      rw [eb, if_neg (by decide), if_neg (by decide), if_neg q1]
    simp only [if_neg q1]
    rw [hE]
    subst es
    simp (decide := true) only [gN1_int, gN1_ref, gN1_null, gN1_long, gTg8_8, gTg8_14, gTg9_9, gTg9_13, gTgA_8, gTgA_9, gTgA_10, gTgA_11, gTgA_13, gTgA_14, gB01_0, gB01_1, gB01_b, List.cons_append, List.nil_append, Option.toList_some, Option.toList_none, Option.bind_some, ↓reduceIte, eq_self, not_true_eq_false, not_false_eq_true, b2i_0, b2i_1, up_eq, up_ne, up_up, up_sort, up_self, fl_at, nI_s, q_89_38, q_89_39, q_89_40, q_89_43, q_89_46, q_89_47, q_89_48, q_89_51, q_89_52, q_89_53, q_89_56, q_89_57, q_89_60, q_89_61, q_89_64, q_89_67, q_89_68, q_89_71, q_89_74, q_89_77, q_89_78, q_89_81, q_89_82, q_89_85, q_89_86, q_89_88, q_89_90, q_89_93, q_89_96, q_89_97, q_89_98, q_89_394, zk_38, zk_43, zs_38_1, zr_38_1, zs_38_2, zr_38_2, zs_38_3, zr_38_3, zs_38_4, zr_38_4, zs_38_8, zr_38_8, zs_38_17, zr_38_17, zs_38_18, zr_38_18, zs_38_19, zr_38_19, zs_38_22, zr_38_22, zs_38_23, zr_38_23, zs_38_25, zr_38_25, zs_38_26, zr_38_26, zs_38_28, zr_38_28, zs_38_29, zr_38_29, hZ, hT, ne_eq]
end
