/-! Foretelling, the rest -/
section
variable {Z : gZ} {I : gI} {J : gJ}
theorem X1_monksOnWay (hZ : St Z) {w sl : Int32} {N c g : Nat} (hF : FH I N w sl) (hc : c < N) (hg : g < N) : ∃ I', g_at 17 0 [.ref 30, .int (nI c), .int (nI g)] [] Z I J = some (some (.int (if g = c then 0 else if mtF (I 32) (I 33) (I 34) (I 35) w sl N c g = -1 then -1 else (trF (I 32) (I 33) (I 34) (I 35) w sl c 10 g 0 0 0).2.2.2)), Z, I', J) ∧ Jw I I' := by
  have h2 := hF.2.1
  by_cases e : g = c
  · subst e
    refine ⟨I, ?_, Jw.refl⟩
    simp (decide := true) only [gN1_int, gN1_ref, gN1_null, gN1_long, gTg8_8, gTg8_14, gTg9_9, gTg9_13, gTgA_8, gTgA_9, gTgA_10, gTgA_11, gTgA_13, gTgA_14, gB01_0, gB01_1, gB01_b, List.cons_append, List.nil_append, Option.toList_some, Option.toList_none, Option.bind_some, ↓reduceIte, eq_self, not_true_eq_false, not_false_eq_true, b2i_0, b2i_1, up_eq, up_ne, up_up, up_sort, up_self, fl_at, nI_s, q_17_0, q_17_1, q_17_2, q_17_5, q_17_6, q_17_7, q_17_8, q_17_9, q_17_10, q_17_13, q_17_14, q_17_17, q_17_18, q_17_21, q_17_22, q_17_25, q_17_28, ne_eq]
  · have e' : ¬ nI g = nI c := fun q => e ((nI_eq (by omega) (by omega)).mp q)
    obtain ⟨I1, r1, r2, r3⟩ := X1_minutesTo (J := J) hZ hF hc hg
    refine ⟨I1, ?_, r2⟩
    rw [if_neg e, ← r3 e]
    by_cases hq : mtF (I 32) (I 33) (I 34) (I 35) w sl N c g = -1
    · simp (decide := true) only [gN1_int, gN1_ref, gN1_null, gN1_long, gTg8_8, gTg8_14, gTg9_9, gTg9_13, gTgA_8, gTgA_9, gTgA_10, gTgA_11, gTgA_13, gTgA_14, gB01_0, gB01_1, gB01_b, List.cons_append, List.nil_append, Option.toList_some, Option.toList_none, Option.bind_some, ↓reduceIte, eq_self, not_true_eq_false, not_false_eq_true, b2i_0, b2i_1, up_eq, up_ne, up_up, up_sort, up_self, fl_at, nI_s, q_17_0, q_17_1, q_17_2, q_17_5, q_17_6, q_17_7, q_17_8, q_17_9, q_17_10, q_17_13, q_17_14, q_17_17, q_17_18, q_17_21, q_17_22, q_17_25, q_17_28, zk_30, zk_36, zs_30_0, zr_30_0, zs_30_1, zr_30_1, zs_30_2, zr_30_2, hZ, e', r1, hq]
    · simp (decide := true) only [gN1_int, gN1_ref, gN1_null, gN1_long, gTg8_8, gTg8_14, gTg9_9, gTg9_13, gTgA_8, gTgA_9, gTgA_10, gTgA_11, gTgA_13, gTgA_14, gB01_0, gB01_1, gB01_b, List.cons_append, List.nil_append, Option.toList_some, Option.toList_none, Option.bind_some, ↓reduceIte, eq_self, not_true_eq_false, not_false_eq_true, b2i_0, b2i_1, up_eq, up_ne, up_up, up_sort, up_self, fl_at, nI_s, q_17_0, q_17_1, q_17_2, q_17_5, q_17_6, q_17_7, q_17_8, q_17_9, q_17_10, q_17_13, q_17_14, q_17_17, q_17_18, q_17_21, q_17_22, q_17_25, q_17_28, zk_30, zk_36, zs_30_0, zr_30_0, zs_30_1, zr_30_1, zs_30_2, zr_30_2, hZ, e', r1, hq]
theorem X1_setBest (hZ : St Z) {v g o : Int32} : g_at 21 0 [.ref 30, .int v, .int g, .int o] [] Z I J = some (none, Z, va_up I 30 (va_up (va_up (va_up (I 30) 5 v) 6 g) 7 o), J) := by
  simp (decide := true) only [gN1_int, gN1_ref, gN1_null, gN1_long, gTg8_8, gTg8_14, gTg9_9, gTg9_13, gTgA_8, gTgA_9, gTgA_10, gTgA_11, gTgA_13, gTgA_14, gB01_0, gB01_1, gB01_b, List.cons_append, List.nil_append, Option.toList_some, Option.toList_none, Option.bind_some, ↓reduceIte, eq_self, not_true_eq_false, not_false_eq_true, b2i_0, b2i_1, up_eq, up_ne, up_up, up_sort, up_self, fl_at, nI_s, q_21_0, q_21_1, q_21_2, q_21_5, q_21_6, q_21_7, q_21_10, q_21_11, q_21_12, q_21_15, zk_30, zs_30_0, zr_30_0, zs_30_1, zr_30_1, zs_30_2, zr_30_2, hZ]
theorem X1_forgetBest (hZ : St Z) : g_at 20 0 [.ref 30] [] Z I J = some (none, Z, va_up I 30 (va_up (va_up (va_up (I 30) 5 (-1)) 6 (-1)) 7 (-1)), J) := by
  simp (decide := true) only [gN1_int, gN1_ref, gN1_null, gN1_long, gTg8_8, gTg8_14, gTg9_9, gTg9_13, gTgA_8, gTgA_9, gTgA_10, gTgA_11, gTgA_13, gTgA_14, gB01_0, gB01_1, gB01_b, List.cons_append, List.nil_append, Option.toList_some, Option.toList_none, Option.bind_some, ↓reduceIte, eq_self, not_true_eq_false, not_false_eq_true, b2i_0, b2i_1, up_eq, up_ne, up_up, up_sort, up_self, fl_at, nI_s, q_20_0, q_20_1, q_20_2, q_20_3, q_20_4, q_20_7, zk_30, zs_30_0, zr_30_0, zs_30_1, zr_30_1, zs_30_2, zr_30_2, hZ, X1_setBest hZ]
/-- two monks change places -/
def sw (f : Nat → Int32) (a b : Nat) : Nat → Int32 := va_up (va_up f a (f b)) b (f a)
theorem sw_sw {f : Nat → Int32} {a b : Nat} : sw (sw f a b) a b = f := by
  funext j
  unfold sw va_up
  by_cases h1 : j = b <;> by_cases h2 : j = a <;> by_cases h3 : a = b <;> simp_all
theorem X0_swapMonks (hZ : St Z) {a b : Nat} (ha : a < 10) (hb : b < 10) : g_at 6 0 [.ref 31, .int (nI a), .int (nI b), .null, .null] [] Z I J = some (none, Z, va_up (va_up I 34 (sw (I 34) a b)) 35 (sw (I 35) a b), J) := by
  obtain ⟨f0, f1, f2⟩ := ixs (j := a) (by omega)
  obtain ⟨g0, g1, g2⟩ := ixs (j := b) (by omega)
  simp (decide := true) only [gN1_int, gN1_ref, gN1_null, gN1_long, gTg8_8, gTg8_14, gTg9_9, gTg9_13, gTgA_8, gTgA_9, gTgA_10, gTgA_11, gTgA_13, gTgA_14, gB01_0, gB01_1, gB01_b, List.cons_append, List.nil_append, Option.toList_some, Option.toList_none, Option.bind_some, ↓reduceIte, eq_self, not_true_eq_false, not_false_eq_true, b2i_0, b2i_1, up_eq, up_ne, up_up, up_sort, up_self, fl_at, nI_s, q_6_0, q_6_1, q_6_4, q_6_5, q_6_6, q_6_7, q_6_8, q_6_11, q_6_12, q_6_13, q_6_15, q_6_16, q_6_19, q_6_20, q_6_21, q_6_24, q_6_25, q_6_26, q_6_27, q_6_28, q_6_31, q_6_32, q_6_33, q_6_36, q_6_37, q_6_38, q_6_39, q_6_40, q_6_43, q_6_44, q_6_45, q_6_46, q_6_47, q_6_50, q_6_51, q_6_53, q_6_54, zk_31, zk_34, zk_35, zs_31_0, zr_31_0, zs_31_1, zr_31_1, zs_31_2, zr_31_2, zs_31_3, zr_31_3, hZ, f0, f1, f2, g0, g1, g2, ha, hb, sw]
/-- who hears over the deaf one -/
def hoP (h : Nat → Int32) (g i : Nat) : Bool := decide (h i = nI g) && !decide (nI i = h g)
def hoH (h : Nat → Int32) (g i : Nat) : Int32 := if hoP h g i = true then h g else h i
def hoS (h s : Nat → Int32) (g i : Nat) : Int32 := if hoP h g i = true then s i + s g else s i
theorem hoS_g {h s : Nat → Int32} {g i : Nat} : fl (hoS h s g) s i g = s g := by
  by_cases e : g < i
  · rw [fl_lt e, hoS, if_neg]
    unfold hoP
    intro q
    simp at q
    exact q.2 q.1.symm
  · rw [fl_ge e]
theorem X0_hearOver (hZ : St Z) {N g : Nat} (hN : I 31 4 = nI N) (hN2 : N ≤ 10) (hg : g < 10) : g_at 7 0 [.ref 31, .int (nI g), .null, .null] [] Z I J = some (none, Z, if I 32 g = -1 then I else va_up (va_up I 32 (fl (hoH (I 32) g) (I 32) N)) 33 (fl (hoS (I 32) (I 33) g) (I 33) N), J) := by
  obtain ⟨g0, g1, g2⟩ := ixs (j := g) (by omega)
  by_cases h1 : I 32 g = -1
  · simp (decide := true) only [gN1_int, gN1_ref, gN1_null, gN1_long, gTg8_8, gTg8_14, gTg9_9, gTg9_13, gTgA_8, gTgA_9, gTgA_10, gTgA_11, gTgA_13, gTgA_14, gB01_0, gB01_1, gB01_b, List.cons_append, List.nil_append, Option.toList_some, Option.toList_none, Option.bind_some, ↓reduceIte, eq_self, not_true_eq_false, not_false_eq_true, b2i_0, b2i_1, up_eq, up_ne, up_up, up_sort, up_self, fl_at, nI_s, q_7_0, q_7_1, q_7_4, q_7_5, q_7_6, q_7_7, q_7_8, q_7_9, q_7_12, zk_31, zk_32, zs_31_0, zr_31_0, zs_31_1, zr_31_1, zs_31_2, zr_31_2, zs_31_3, zr_31_3, hZ, g0, g1, g2, hg, h1]
  · have key := loop_eq (fun k => g_at 7 15 [.ref 31, .int (nI g), .int (I 32 g), .int (nI k)] [] Z (va_up (va_up I 32 (fl (hoH (I 32) g) (I 32) k)) 33 (fl (hoS (I 32) (I 33) g) (I 33) k)) J) (n := N) (fun k hk => by
      obtain ⟨f0, f1, f2⟩ := ixs (j := k) (by omega)
      have f3 : ¬ nI N ≤ nI k := nI_ge hk (by omega)
      have f4 : k < 10 := by omega
      try dsimp only
      rw [q_7_15]
      by_cases h2 : I 32 k = nI g
      · by_cases h3 : nI k = I 32 g
        · have hp : hoP (I 32) g k = false := by simp [hoP, h2, h3]
          have e1 : hoH (I 32) g k = I 32 k := by simp [hoH, hp]
          have e2 : hoS (I 32) (I 33) g k = I 33 k := by simp [hoS, hp]
          have h3' := h3.symm
          have s1 := (fl_same e1).symm
          have s2 := (fl_same e2).symm
          simp (decide := true) only [gN1_int, gN1_ref, gN1_null, gN1_long, gTg8_8, gTg8_14, gTg9_9, gTg9_13, gTgA_8, gTgA_9, gTgA_10, gTgA_11, gTgA_13, gTgA_14, gB01_0, gB01_1, gB01_b, List.cons_append, List.nil_append, Option.toList_some, Option.toList_none, Option.bind_some, ↓reduceIte, eq_self, not_true_eq_false, not_false_eq_true, b2i_0, b2i_1, up_eq, up_ne, up_up, up_sort, up_self, fl_at, nI_s, q_7_0, q_7_1, q_7_4, q_7_5, q_7_6, q_7_7, q_7_8, q_7_9, q_7_12, q_7_13, q_7_14, q_7_16, q_7_17, q_7_20, q_7_23, q_7_24, q_7_27, q_7_28, q_7_29, q_7_30, q_7_33, q_7_34, q_7_35, q_7_38, q_7_39, q_7_42, q_7_43, q_7_44, q_7_45, q_7_46, q_7_49, q_7_50, q_7_51, q_7_52, q_7_53, q_7_56, q_7_57, q_7_58, q_7_59, q_7_60, q_7_63, q_7_66, zk_31, zk_32, zk_33, zs_31_0, zr_31_0, zs_31_1, zr_31_1, zs_31_2, zr_31_2, zs_31_3, zr_31_3, hZ, f0, f1, f2, f3, f4, hN, h2, h3', s1, s2]
        · have hp : hoP (I 32) g k = true := by simp [hoP, h2, h3]
          have e1 : hoH (I 32) g k = I 32 g := by simp [hoH, hp]
          have e2 : hoS (I 32) (I 33) g k = I 33 k + I 33 g := by simp [hoS, hp]
          simp (decide := true) only [gN1_int, gN1_ref, gN1_null, gN1_long, gTg8_8, gTg8_14, gTg9_9, gTg9_13, gTgA_8, gTgA_9, gTgA_10, gTgA_11, gTgA_13, gTgA_14, gB01_0, gB01_1, gB01_b, List.cons_append, List.nil_append, Option.toList_some, Option.toList_none, Option.bind_some, ↓reduceIte, eq_self, not_true_eq_false, not_false_eq_true, b2i_0, b2i_1, up_eq, up_ne, up_up, up_sort, up_self, fl_at, nI_s, q_7_0, q_7_1, q_7_4, q_7_5, q_7_6, q_7_7, q_7_8, q_7_9, q_7_12, q_7_13, q_7_14, q_7_16, q_7_17, q_7_20, q_7_23, q_7_24, q_7_27, q_7_28, q_7_29, q_7_30, q_7_33, q_7_34, q_7_35, q_7_38, q_7_39, q_7_42, q_7_43, q_7_44, q_7_45, q_7_46, q_7_49, q_7_50, q_7_51, q_7_52, q_7_53, q_7_56, q_7_57, q_7_58, q_7_59, q_7_60, q_7_63, q_7_66, zk_31, zk_32, zk_33, zs_31_0, zr_31_0, zs_31_1, zr_31_1, zs_31_2, zr_31_2, zs_31_3, zr_31_3, hZ, f0, f1, f2, f3, f4, hN, h2, h3, fl_next, e1, e2, g0, g1, g2, hg, hoS_g]
      · have hp : hoP (I 32) g k = false := by simp [hoP, h2]
        have e1 : hoH (I 32) g k = I 32 k := by simp [hoH, hp]
        have e2 : hoS (I 32) (I 33) g k = I 33 k := by simp [hoS, hp]
        simp (decide := true) only [gN1_int, gN1_ref, gN1_null, gN1_long, gTg8_8, gTg8_14, gTg9_9, gTg9_13, gTgA_8, gTgA_9, gTgA_10, gTgA_11, gTgA_13, gTgA_14, gB01_0, gB01_1, gB01_b, List.cons_append, List.nil_append, Option.toList_some, Option.toList_none, Option.bind_some, ↓reduceIte, eq_self, not_true_eq_false, not_false_eq_true, b2i_0, b2i_1, up_eq, up_ne, up_up, up_sort, up_self, fl_at, nI_s, q_7_0, q_7_1, q_7_4, q_7_5, q_7_6, q_7_7, q_7_8, q_7_9, q_7_12, q_7_13, q_7_14, q_7_16, q_7_17, q_7_20, q_7_23, q_7_24, q_7_27, q_7_28, q_7_29, q_7_30, q_7_33, q_7_34, q_7_35, q_7_38, q_7_39, q_7_42, q_7_43, q_7_44, q_7_45, q_7_46, q_7_49, q_7_50, q_7_51, q_7_52, q_7_53, q_7_56, q_7_57, q_7_58, q_7_59, q_7_60, q_7_63, q_7_66, zk_31, zk_32, zk_33, zs_31_0, zr_31_0, zs_31_1, zr_31_1, zs_31_2, zr_31_2, zs_31_3, zr_31_3, hZ, f0, f1, f2, f3, f4, hN, h2, fl_next, e1, e2, fl_keep])
    simp (decide := true) only [fl_0, up_self, up_self2, nI_0] at key
    rw [if_neg h1]
    simp (decide := true) only [gN1_int, gN1_ref, gN1_null, gN1_long, gTg8_8, gTg8_14, gTg9_9, gTg9_13, gTgA_8, gTgA_9, gTgA_10, gTgA_11, gTgA_13, gTgA_14, gB01_0, gB01_1, gB01_b, List.cons_append, List.nil_append, Option.toList_some, Option.toList_none, Option.bind_some, ↓reduceIte, eq_self, not_true_eq_false, not_false_eq_true, b2i_0, b2i_1, up_eq, up_ne, up_up, up_sort, up_self, fl_at, nI_s, q_7_0, q_7_1, q_7_4, q_7_5, q_7_6, q_7_7, q_7_8, q_7_9, q_7_12, q_7_13, q_7_14, zk_31, zk_32, zs_31_0, zr_31_0, zs_31_1, zr_31_1, zs_31_2, zr_31_2, zs_31_3, zr_31_3, hZ, g0, g1, g2, hg, h1]
    rw [key, q_7_15]
    simp (decide := true) only [gN1_int, gN1_ref, gN1_null, gN1_long, gTg8_8, gTg8_14, gTg9_9, gTg9_13, gTgA_8, gTgA_9, gTgA_10, gTgA_11, gTgA_13, gTgA_14, gB01_0, gB01_1, gB01_b, List.cons_append, List.nil_append, Option.toList_some, Option.toList_none, Option.bind_some, ↓reduceIte, eq_self, not_true_eq_false, not_false_eq_true, b2i_0, b2i_1, up_eq, up_ne, up_up, up_sort, up_self, fl_at, nI_s, q_7_0, q_7_1, q_7_4, q_7_5, q_7_6, q_7_7, q_7_8, q_7_9, q_7_12, q_7_13, q_7_14, q_7_16, q_7_17, q_7_20, q_7_23, q_7_24, q_7_27, q_7_28, q_7_29, q_7_30, q_7_33, q_7_34, q_7_35, q_7_38, q_7_39, q_7_42, q_7_43, q_7_44, q_7_45, q_7_46, q_7_49, q_7_50, q_7_51, q_7_52, q_7_53, q_7_56, q_7_57, q_7_58, q_7_59, q_7_60, q_7_63, q_7_66, zk_31, zs_31_0, zr_31_0, zs_31_1, zr_31_1, zs_31_2, zr_31_2, zs_31_3, zr_31_3, hZ, hN, Int32.le_refl]
/-- m strikes, and those that come back -/
def srF (mask : Int32) : Nat → Int32
  | 0 => 0
  | i + 1 => if (srF mask i + 1) &&& mask = 0 then srF mask i + 1 + 1 else srF mask i + 1
theorem X1_strokesInRing {d : Int32} {m : Nat} (hm : m < 1000000) : g_at 15 0 [.int (nI m), .int d, .null, .null, .null] [] Z I J = some (some (.int (srF ((1 <<< (d &&& 31)) - 1) m)), Z, I, J) := by
  have key := loop_eq (fun k => g_at 15 11 [.int (nI m), .int d, .int ((1 <<< (d &&& 31)) - 1), .int (srF ((1 <<< (d &&& 31)) - 1) k), .int (nI k)] [] Z I J) (n := m) (fun k hk => by
    have f3 : ¬ nI m ≤ nI k := nI_ge hk (by omega)
    try dsimp only
    rw [q_15_11]
    by_cases h : (srF (((1 : Int32) <<< (d &&& 31)) - 1) k + 1) &&& (((1 : Int32) <<< (d &&& 31)) - 1) = 0
    · simp (decide := true) only [gN1_int, gN1_ref, gN1_null, gN1_long, gTg8_8, gTg8_14, gTg9_9, gTg9_13, gTgA_8, gTgA_9, gTgA_10, gTgA_11, gTgA_13, gTgA_14, gB01_0, gB01_1, gB01_b, List.cons_append, List.nil_append, Option.toList_some, Option.toList_none, Option.bind_some, ↓reduceIte, eq_self, not_true_eq_false, not_false_eq_true, b2i_0, b2i_1, up_eq, up_ne, up_up, up_sort, up_self, fl_at, nI_s, q_15_0, q_15_1, q_15_2, q_15_3, q_15_4, q_15_5, q_15_6, q_15_7, q_15_8, q_15_9, q_15_13, q_15_14, q_15_17, q_15_20, q_15_21, q_15_22, q_15_23, q_15_26, q_15_29, q_15_32, q_15_35, q_15_36, f3, srF, h]
    · simp (decide := true) only [gN1_int, gN1_ref, gN1_null, gN1_long, gTg8_8, gTg8_14, gTg9_9, gTg9_13, gTgA_8, gTgA_9, gTgA_10, gTgA_11, gTgA_13, gTgA_14, gB01_0, gB01_1, gB01_b, List.cons_append, List.nil_append, Option.toList_some, Option.toList_none, Option.bind_some, ↓reduceIte, eq_self, not_true_eq_false, not_false_eq_true, b2i_0, b2i_1, up_eq, up_ne, up_up, up_sort, up_self, fl_at, nI_s, q_15_0, q_15_1, q_15_2, q_15_3, q_15_4, q_15_5, q_15_6, q_15_7, q_15_8, q_15_9, q_15_13, q_15_14, q_15_17, q_15_20, q_15_21, q_15_22, q_15_23, q_15_26, q_15_29, q_15_32, q_15_35, q_15_36, f3, srF, h])
  simp (decide := true) only [srF, nI_0] at key
  simp (decide := true) only [gN1_int, gN1_ref, gN1_null, gN1_long, gTg8_8, gTg8_14, gTg9_9, gTg9_13, gTgA_8, gTgA_9, gTgA_10, gTgA_11, gTgA_13, gTgA_14, gB01_0, gB01_1, gB01_b, List.cons_append, List.nil_append, Option.toList_some, Option.toList_none, Option.bind_some, ↓reduceIte, eq_self, not_true_eq_false, not_false_eq_true, b2i_0, b2i_1, up_eq, up_ne, up_up, up_sort, up_self, fl_at, nI_s, q_15_0, q_15_1, q_15_2, q_15_3, q_15_4, q_15_5, q_15_6, q_15_7, q_15_8, q_15_9]
  rw [key, q_15_11]
  simp (decide := true) only [gN1_int, gN1_ref, gN1_null, gN1_long, gTg8_8, gTg8_14, gTg9_9, gTg9_13, gTgA_8, gTgA_9, gTgA_10, gTgA_11, gTgA_13, gTgA_14, gB01_0, gB01_1, gB01_b, List.cons_append, List.nil_append, Option.toList_some, Option.toList_none, Option.bind_some, ↓reduceIte, eq_self, not_true_eq_false, not_false_eq_true, b2i_0, b2i_1, up_eq, up_ne, up_up, up_sort, up_self, fl_at, nI_s, q_15_0, q_15_1, q_15_2, q_15_3, q_15_4, q_15_5, q_15_6, q_15_7, q_15_8, q_15_9, q_15_13, q_15_14, q_15_17, q_15_20, q_15_21, q_15_22, q_15_23, q_15_26, q_15_29, q_15_32, q_15_35, q_15_36, Int32.le_refl]
/-- TIMES, the class's -/
def stF (h s k d : Nat → Int32) (w sl : Int32) (c g m : Nat) : Int32 :=
  if (trF h s k d w sl c 10 c 0 0 0).1 = true ∧ (trF h s k d w sl c 10 c 0 0 0).2.2.1 = 0 then -1
  else if g = c then (if (trF h s k d w sl c 10 c 0 0 0).1 = true then srF ((1 <<< ((trF h s k d w sl c 10 c 0 0 0).2.2.1 &&& 31)) - 1) m else nI m)
  else if (trF h s k d w sl c 10 g 0 0 0).1 = true then (if (trF h s k d w sl c 10 c 0 0 0).1 = true then srF ((1 <<< ((trF h s k d w sl c 10 c 0 0 0).2.2.1 &&& 31)) - 1) m else nI m) >>> ((trF h s k d w sl c 10 g 0 0 0).2.2.1 &&& 31)
  else 0
theorem X1_strokes (hZ : St Z) {w sl : Int32} {N c g m : Nat} (hF : FH I N w sl) (hc : c < N) (hg : g < N) (hm : m < 1000000) : ∃ I', g_at 14 0 [.ref 30, .int (nI c), .int (nI g), .int (nI m), .null, .null] [] Z I J = some (some (.int (stF (I 32) (I 33) (I 34) (I 35) w sl c g m)), Z, I', J) ∧ Jw I I' := by
  obtain ⟨h1, h2, h3, h4, h5⟩ := hF
  have ht := X5_trace_37 (J := J) hZ (w := w) (sl := sl) h1 h2 h3 hc hc
  have hsr := fun (d : Int32) (I' : gI) => X1_strokesInRing (Z := Z) (I := I') (J := J) (d := d) hm
  unfold stF
  generalize trF (I 32) (I 33) (I 34) (I 35) w sl c 10 c 0 0 0 = r at ht
  obtain ⟨b, mi, dd, mo⟩ := r
  simp only at ht ⊢
  have ht2 := X5_trace_36 (I := va_up I 37 (va_up (va_up (va_up (I 37) 0 mi) 1 dd) 2 mo)) (J := J) hZ (w := w) (sl := sl) (N := N) (c := c) (g := g) (by rw [up_ne (by decide)]; exact h1) h2 (by rw [up_ne (by decide)]; exact h3) hc hg
  simp (decide := true) only [up_ne] at ht2
  generalize trF (I 32) (I 33) (I 34) (I 35) w sl c 10 g 0 0 0 = r2 at ht2
  obtain ⟨b2, mi2, dd2, mo2⟩ := r2
  simp only at ht2 ⊢
  by_cases hbd : b = true ∧ dd = 0
  · refine ⟨va_up I 37 (va_up (va_up (va_up (I 37) 0 mi) 1 dd) 2 mo), ?_, Jw.u7⟩
    obtain ⟨e1, e2⟩ := hbd
    subst e1 e2
    simp (decide := true) only [gN1_int, gN1_ref, gN1_null, gN1_long, gTg8_8, gTg8_14, gTg9_9, gTg9_13, gTgA_8, gTgA_9, gTgA_10, gTgA_11, gTgA_13, gTgA_14, gB01_0, gB01_1, gB01_b, List.cons_append, List.nil_append, Option.toList_some, Option.toList_none, Option.bind_some, ↓reduceIte, eq_self, not_true_eq_false, not_false_eq_true, b2i_0, b2i_1, up_eq, up_ne, up_up, up_sort, up_self, fl_at, nI_s, q_14_0, q_14_1, q_14_4, q_14_5, q_14_8, q_14_9, q_14_12, q_14_13, q_14_16, q_14_17, q_14_18, q_14_21, q_14_23, q_14_25, q_14_28, q_14_29, q_14_32, q_14_35, q_14_38, q_14_39, q_14_40, q_14_42, q_14_45, q_14_46, q_14_47, q_14_50, q_14_53, q_14_56, q_14_59, q_14_60, q_14_62, q_14_63, q_14_64, q_14_67, q_14_69, q_14_70, q_14_71, q_14_74, q_14_75, q_14_78, q_14_79, q_14_82, q_14_83, q_14_86, q_14_87, q_14_88, q_14_91, q_14_94, q_14_96, q_14_97, q_14_100, q_14_103, q_14_104, q_14_107, q_14_108, zk_30, zk_31, zk_36, zk_37, zs_31_0, zr_31_0, zs_31_1, zr_31_1, zs_31_2, zr_31_2, zs_31_3, zr_31_3, zs_30_0, zr_30_0, zs_30_1, zr_30_1, zs_30_2, zr_30_2, hZ, h4, h5, ht, Bool.true_eq_false, true_and]
  · by_cases e : g = c
    · subst e
      refine ⟨va_up I 37 (va_up (va_up (va_up (I 37) 0 mi) 1 dd) 2 mo), ?_, Jw.u7⟩
      cases b
      · simp (decide := true) only [gN1_int, gN1_ref, gN1_null, gN1_long, gTg8_8, gTg8_14, gTg9_9, gTg9_13, gTgA_8, gTgA_9, gTgA_10, gTgA_11, gTgA_13, gTgA_14, gB01_0, gB01_1, gB01_b, List.cons_append, List.nil_append, Option.toList_some, Option.toList_none, Option.bind_some, ↓reduceIte, eq_self, not_true_eq_false, not_false_eq_true, b2i_0, b2i_1, up_eq, up_ne, up_up, up_sort, up_self, fl_at, nI_s, q_14_0, q_14_1, q_14_4, q_14_5, q_14_8, q_14_9, q_14_12, q_14_13, q_14_16, q_14_17, q_14_18, q_14_21, q_14_23, q_14_25, q_14_28, q_14_29, q_14_32, q_14_35, q_14_38, q_14_39, q_14_40, q_14_42, q_14_45, q_14_46, q_14_47, q_14_50, q_14_53, q_14_56, q_14_59, q_14_60, q_14_62, q_14_63, q_14_64, q_14_67, q_14_69, q_14_70, q_14_71, q_14_74, q_14_75, q_14_78, q_14_79, q_14_82, q_14_83, q_14_86, q_14_87, q_14_88, q_14_91, q_14_94, q_14_96, q_14_97, q_14_100, q_14_103, q_14_104, q_14_107, q_14_108, zk_30, zk_31, zk_36, zk_37, zs_31_0, zr_31_0, zs_31_1, zr_31_1, zs_31_2, zr_31_2, zs_31_3, zr_31_3, zs_30_0, zr_30_0, zs_30_1, zr_30_1, zs_30_2, zr_30_2, hZ, h4, h5, ht, ne_eq, Bool.false_eq_true, false_and]
      · have e2 : ¬ dd = 0 := fun q => hbd ⟨rfl, q⟩
        simp (decide := true) only [gN1_int, gN1_ref, gN1_null, gN1_long, gTg8_8, gTg8_14, gTg9_9, gTg9_13, gTgA_8, gTgA_9, gTgA_10, gTgA_11, gTgA_13, gTgA_14, gB01_0, gB01_1, gB01_b, List.cons_append, List.nil_append, Option.toList_some, Option.toList_none, Option.bind_some, ↓reduceIte, eq_self, not_true_eq_false, not_false_eq_true, b2i_0, b2i_1, up_eq, up_ne, up_up, up_sort, up_self, fl_at, nI_s, q_14_0, q_14_1, q_14_4, q_14_5, q_14_8, q_14_9, q_14_12, q_14_13, q_14_16, q_14_17, q_14_18, q_14_21, q_14_23, q_14_25, q_14_28, q_14_29, q_14_32, q_14_35, q_14_38, q_14_39, q_14_40, q_14_42, q_14_45, q_14_46, q_14_47, q_14_50, q_14_53, q_14_56, q_14_59, q_14_60, q_14_62, q_14_63, q_14_64, q_14_67, q_14_69, q_14_70, q_14_71, q_14_74, q_14_75, q_14_78, q_14_79, q_14_82, q_14_83, q_14_86, q_14_87, q_14_88, q_14_91, q_14_94, q_14_96, q_14_97, q_14_100, q_14_103, q_14_104, q_14_107, q_14_108, zk_30, zk_31, zk_36, zk_37, zs_31_0, zr_31_0, zs_31_1, zr_31_1, zs_31_2, zr_31_2, zs_31_3, zr_31_3, zs_30_0, zr_30_0, zs_30_1, zr_30_1, zs_30_2, zr_30_2, hZ, h4, h5, ht, e2, hsr, ne_eq, Bool.true_eq_false, and_false]
    · have e' : ¬ nI g = nI c := fun q => e ((nI_eq (by omega) (by omega)).mp q)
      refine ⟨va_up (va_up I 36 (va_up (va_up (va_up (I 36) 0 mi2) 1 dd2) 2 mo2)) 37 (va_up (va_up (va_up (I 37) 0 mi) 1 dd) 2 mo), ?_, Jw.u6.trans Jw.u7⟩
      cases b
      · cases b2
        · simp (decide := true) only [gN1_int, gN1_ref, gN1_null, gN1_long, gTg8_8, gTg8_14, gTg9_9, gTg9_13, gTgA_8, gTgA_9, gTgA_10, gTgA_11, gTgA_13, gTgA_14, gB01_0, gB01_1, gB01_b, List.cons_append, List.nil_append, Option.toList_some, Option.toList_none, Option.bind_some, ↓reduceIte, eq_self, not_true_eq_false, not_false_eq_true, b2i_0, b2i_1, up_eq, up_ne, up_up, up_sort, up_self, fl_at, nI_s, q_14_0, q_14_1, q_14_4, q_14_5, q_14_8, q_14_9, q_14_12, q_14_13, q_14_16, q_14_17, q_14_18, q_14_21, q_14_23, q_14_25, q_14_28, q_14_29, q_14_32, q_14_35, q_14_38, q_14_39, q_14_40, q_14_42, q_14_45, q_14_46, q_14_47, q_14_50, q_14_53, q_14_56, q_14_59, q_14_60, q_14_62, q_14_63, q_14_64, q_14_67, q_14_69, q_14_70, q_14_71, q_14_74, q_14_75, q_14_78, q_14_79, q_14_82, q_14_83, q_14_86, q_14_87, q_14_88, q_14_91, q_14_94, q_14_96, q_14_97, q_14_100, q_14_103, q_14_104, q_14_107, q_14_108, zk_30, zk_31, zk_36, zk_37, zs_31_0, zr_31_0, zs_31_1, zr_31_1, zs_31_2, zr_31_2, zs_31_3, zr_31_3, zs_30_0, zr_30_0, zs_30_1, zr_30_1, zs_30_2, zr_30_2, hZ, h4, h5, ht, ht2, e, e', ne_eq, Bool.false_eq_true, false_and]
        · simp (decide := true) only [gN1_int, gN1_ref, gN1_null, gN1_long, gTg8_8, gTg8_14, gTg9_9, gTg9_13, gTgA_8, gTgA_9, gTgA_10, gTgA_11, gTgA_13, gTgA_14, gB01_0, gB01_1, gB01_b, List.cons_append, List.nil_append, Option.toList_some, Option.toList_none, Option.bind_some, ↓reduceIte, eq_self, not_true_eq_false, not_false_eq_true, b2i_0, b2i_1, up_eq, up_ne, up_up, up_sort, up_self, fl_at, nI_s, q_14_0, q_14_1, q_14_4, q_14_5, q_14_8, q_14_9, q_14_12, q_14_13, q_14_16, q_14_17, q_14_18, q_14_21, q_14_23, q_14_25, q_14_28, q_14_29, q_14_32, q_14_35, q_14_38, q_14_39, q_14_40, q_14_42, q_14_45, q_14_46, q_14_47, q_14_50, q_14_53, q_14_56, q_14_59, q_14_60, q_14_62, q_14_63, q_14_64, q_14_67, q_14_69, q_14_70, q_14_71, q_14_74, q_14_75, q_14_78, q_14_79, q_14_82, q_14_83, q_14_86, q_14_87, q_14_88, q_14_91, q_14_94, q_14_96, q_14_97, q_14_100, q_14_103, q_14_104, q_14_107, q_14_108, zk_30, zk_31, zk_36, zk_37, zs_31_0, zr_31_0, zs_31_1, zr_31_1, zs_31_2, zr_31_2, zs_31_3, zr_31_3, zs_30_0, zr_30_0, zs_30_1, zr_30_1, zs_30_2, zr_30_2, hZ, h4, h5, ht, ht2, e, e', ne_eq, Bool.false_eq_true, Bool.true_eq_false, false_and]
      · have e2 : ¬ dd = 0 := fun q => hbd ⟨rfl, q⟩
        cases b2
        · simp (decide := true) only [gN1_int, gN1_ref, gN1_null, gN1_long, gTg8_8, gTg8_14, gTg9_9, gTg9_13, gTgA_8, gTgA_9, gTgA_10, gTgA_11, gTgA_13, gTgA_14, gB01_0, gB01_1, gB01_b, List.cons_append, List.nil_append, Option.toList_some, Option.toList_none, Option.bind_some, ↓reduceIte, eq_self, not_true_eq_false, not_false_eq_true, b2i_0, b2i_1, up_eq, up_ne, up_up, up_sort, up_self, fl_at, nI_s, q_14_0, q_14_1, q_14_4, q_14_5, q_14_8, q_14_9, q_14_12, q_14_13, q_14_16, q_14_17, q_14_18, q_14_21, q_14_23, q_14_25, q_14_28, q_14_29, q_14_32, q_14_35, q_14_38, q_14_39, q_14_40, q_14_42, q_14_45, q_14_46, q_14_47, q_14_50, q_14_53, q_14_56, q_14_59, q_14_60, q_14_62, q_14_63, q_14_64, q_14_67, q_14_69, q_14_70, q_14_71, q_14_74, q_14_75, q_14_78, q_14_79, q_14_82, q_14_83, q_14_86, q_14_87, q_14_88, q_14_91, q_14_94, q_14_96, q_14_97, q_14_100, q_14_103, q_14_104, q_14_107, q_14_108, zk_30, zk_31, zk_36, zk_37, zs_31_0, zr_31_0, zs_31_1, zr_31_1, zs_31_2, zr_31_2, zs_31_3, zr_31_3, zs_30_0, zr_30_0, zs_30_1, zr_30_1, zs_30_2, zr_30_2, hZ, h4, h5, ht, ht2, e, e', e2, hsr, ne_eq, Bool.true_eq_false, Bool.false_eq_true, and_false]
        · simp (decide := true) only [gN1_int, gN1_ref, gN1_null, gN1_long, gTg8_8, gTg8_14, gTg9_9, gTg9_13, gTgA_8, gTgA_9, gTgA_10, gTgA_11, gTgA_13, gTgA_14, gB01_0, gB01_1, gB01_b, List.cons_append, List.nil_append, Option.toList_some, Option.toList_none, Option.bind_some, ↓reduceIte, eq_self, not_true_eq_false, not_false_eq_true, b2i_0, b2i_1, up_eq, up_ne, up_up, up_sort, up_self, fl_at, nI_s, q_14_0, q_14_1, q_14_4, q_14_5, q_14_8, q_14_9, q_14_12, q_14_13, q_14_16, q_14_17, q_14_18, q_14_21, q_14_23, q_14_25, q_14_28, q_14_29, q_14_32, q_14_35, q_14_38, q_14_39, q_14_40, q_14_42, q_14_45, q_14_46, q_14_47, q_14_50, q_14_53, q_14_56, q_14_59, q_14_60, q_14_62, q_14_63, q_14_64, q_14_67, q_14_69, q_14_70, q_14_71, q_14_74, q_14_75, q_14_78, q_14_79, q_14_82, q_14_83, q_14_86, q_14_87, q_14_88, q_14_91, q_14_94, q_14_96, q_14_97, q_14_100, q_14_103, q_14_104, q_14_107, q_14_108, zk_30, zk_31, zk_36, zk_37, zs_31_0, zr_31_0, zs_31_1, zr_31_1, zs_31_2, zr_31_2, zs_31_3, zr_31_3, zs_30_0, zr_30_0, zs_30_1, zr_30_1, zs_30_2, zr_30_2, hZ, h4, h5, ht, ht2, e, e', e2, hsr, ne_eq, Bool.true_eq_false, and_false]
theorem X1_suppose (hZ : St Z) {w : Int32} : g_at 9 0 [.ref 30, .ref 3, .int w] [] Z I J = some (none, Z, va_up (va_up (va_up (va_up (va_up (va_up I 30 (va_up (va_up (I 30) 3 w) 4 (-1))) 31 (va_up (va_up (I 31) 4 (I 3 4)) 5 (I 3 5))) 32 (fl (I 4) (I 32) 10)) 33 (fl (I 5) (I 33) 10)) 34 (fl (I 6) (I 34) 10)) 35 (fl (I 7) (I 35) 10), J) := by
  simp (decide := true) only [gN1_int, gN1_ref, gN1_null, gN1_long, gTg8_8, gTg8_14, gTg9_9, gTg9_13, gTgA_8, gTgA_9, gTgA_10, gTgA_11, gTgA_13, gTgA_14, gB01_0, gB01_1, gB01_b, List.cons_append, List.nil_append, Option.toList_some, Option.toList_none, Option.bind_some, ↓reduceIte, eq_self, not_true_eq_false, not_false_eq_true, b2i_0, b2i_1, up_eq, up_ne, up_up, up_sort, up_self, fl_at, nI_s, q_9_0, q_9_1, q_9_4, q_9_5, q_9_8, q_9_9, q_9_10, q_9_13, q_9_14, q_9_15, q_9_18, zk_30, zk_31, zs_31_0, zr_31_0, zs_31_1, zr_31_1, zs_31_2, zr_31_2, zs_31_3, zr_31_3, zs_30_0, zr_30_0, zs_30_1, zr_30_1, zs_30_2, zr_30_2, hZ, X0_copyFrom_31_3 hZ]
end
