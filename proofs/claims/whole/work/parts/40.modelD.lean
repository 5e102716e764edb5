/-! the reference's foretold answers -/
section
variable {Z : gZ} {I : gI} {J : gJ} {N : Nat} {w sl : Int32}
def HM (I : gI) (N : Nat) (w sl : Int32) : Prop := I 38 0 = nI N ∧ N ≤ 10 ∧ Hw (I 39) N ∧ I 38 5 = w ∧ I 38 27 = sl
theorem X7_wakes (hZ : St Z) (h : HM I N w sl) {a : Nat} (ha : a < 10) : g_at 111 0 [.ref 38, .int (nI a)] [] Z I J = some (some (.int (b2i (gd (I 39) (I 40) (I 41) w sl a))), Z, I, J) := by
  obtain ⟨h1, h2, h3, h4, h5⟩ := h
  have hc := X7_canHear (I := I) (J := J) hZ ha
  rw [h4] at hc
  unfold gd
  cases q1 : cH (I 39) (I 40) (I 41) w a
  · simp (decide := true) only [gN1_int, gN1_ref, gN1_null, gN1_long, gTg8_8, gTg8_14, gTg9_9, gTg9_13, gTgA_8, gTgA_9, gTgA_10, gTgA_11, gTgA_13, gTgA_14, gB01_0, gB01_1, gB01_b, List.cons_append, List.nil_append, Option.toList_some, Option.toList_none, Option.bind_some, ↓reduceIte, eq_self, not_true_eq_false, not_false_eq_true, b2i_0, b2i_1, up_eq, up_ne, up_up, up_sort, up_self, fl_at, nI_s, q_111_0, q_111_1, q_111_2, q_111_5, q_111_8, q_111_9, q_111_10, q_111_13, q_111_16, q_111_17, q_111_20, q_111_21, zk_38, zs_38_1, zr_38_1, zs_38_2, zr_38_2, zs_38_3, zr_38_3, zs_38_4, zr_38_4, zs_38_8, zr_38_8, zs_38_17, zr_38_17, zs_38_18, zr_38_18, zs_38_19, zr_38_19, zs_38_22, zr_38_22, zs_38_23, zr_38_23, zs_38_25, zr_38_25, zs_38_26, zr_38_26, zs_38_28, zr_38_28, zs_38_29, zr_38_29, hZ, hc, q1, Bool.false_and]
    rfl
  · by_cases q2 : nI a = sl
    · have q3 : sl = nI a := q2.symm
      simp (decide := true) only [gN1_int, gN1_ref, gN1_null, gN1_long, gTg8_8, gTg8_14, gTg9_9, gTg9_13, gTgA_8, gTgA_9, gTgA_10, gTgA_11, gTgA_13, gTgA_14, gB01_0, gB01_1, gB01_b, List.cons_append, List.nil_append, Option.toList_some, Option.toList_none, Option.bind_some, ↓reduceIte, eq_self, not_true_eq_false, not_false_eq_true, b2i_0, b2i_1, up_eq, up_ne, up_up, up_sort, up_self, fl_at, nI_s, q_111_0, q_111_1, q_111_2, q_111_5, q_111_8, q_111_9, q_111_10, q_111_13, q_111_16, q_111_17, q_111_20, q_111_21, zk_38, zs_38_1, zr_38_1, zs_38_2, zr_38_2, zs_38_3, zr_38_3, zs_38_4, zr_38_4, zs_38_8, zr_38_8, zs_38_17, zr_38_17, zs_38_18, zr_38_18, zs_38_19, zr_38_19, zs_38_22, zr_38_22, zs_38_23, zr_38_23, zs_38_25, zr_38_25, zs_38_26, zr_38_26, zs_38_28, zr_38_28, zs_38_29, zr_38_29, hZ, hc, q1, h5, q3, Bool.true_and, Bool.true_eq_false, decide_true]
      rfl
    · simp (decide := true) only [gN1_int, gN1_ref, gN1_null, gN1_long, gTg8_8, gTg8_14, gTg9_9, gTg9_13, gTgA_8, gTgA_9, gTgA_10, gTgA_11, gTgA_13, gTgA_14, gB01_0, gB01_1, gB01_b, List.cons_append, List.nil_append, Option.toList_some, Option.toList_none, Option.bind_some, ↓reduceIte, eq_self, not_true_eq_false, not_false_eq_true, b2i_0, b2i_1, up_eq, up_ne, up_up, up_sort, up_self, fl_at, nI_s, q_111_0, q_111_1, q_111_2, q_111_5, q_111_8, q_111_9, q_111_10, q_111_13, q_111_16, q_111_17, q_111_20, q_111_21, zk_38, zs_38_1, zr_38_1, zs_38_2, zr_38_2, zs_38_3, zr_38_3, zs_38_4, zr_38_4, zs_38_8, zr_38_8, zs_38_17, zr_38_17, zs_38_18, zr_38_18, zs_38_19, zr_38_19, zs_38_22, zr_38_22, zs_38_23, zr_38_23, zs_38_25, zr_38_25, zs_38_26, zr_38_26, zs_38_28, zr_38_28, zs_38_29, zr_38_29, hZ, hc, q1, h5, q2, Bool.true_and, Bool.true_eq_false, decide_false]
      rfl
theorem X7_roundOf (hZ : St Z) (h : HM I N w sl) {c : Nat} (hc : c < N) : g_at 112 0 [.ref 38, .int (nI c), .null, .null, .null] [] Z I J = some (some (.int (rdF (I 39) (I 40) (I 41) (I 42) w sl N c)), Z, I, J) := by
  have h0 := h
  obtain ⟨h1, h2, h3, h4, h5⟩ := h
  have key : ∀ (f a : Nat) (su : Int32), f ≤ N → a < N → g_at 112 7 [.ref 38, .int (nI c), .int su, .int (nI a), .int (nI (N - f))] [] Z I J = some (some (.int (roF (I 39) (I 40) (I 41) (I 42) w sl c f a su)), Z, I, J) := by
    intro f
    induction f with
    | zero =>
      intro a su _ _
      rw [q_112_7, roF]
      simp (decide := true) only [gN1_int, gN1_ref, gN1_null, gN1_long, gTg8_8, gTg8_14, gTg9_9, gTg9_13, gTgA_8, gTgA_9, gTgA_10, gTgA_11, gTgA_13, gTgA_14, gB01_0, gB01_1, gB01_b, List.cons_append, List.nil_append, Option.toList_some, Option.toList_none, Option.bind_some, ↓reduceIte, eq_self, not_true_eq_false, not_false_eq_true, b2i_0, b2i_1, up_eq, up_ne, up_up, up_sort, up_self, fl_at, nI_s, q_112_0, q_112_1, q_112_2, q_112_3, q_112_4, q_112_5, q_112_9, q_112_10, q_112_13, q_112_16, q_112_17, q_112_18, q_112_21, q_112_24, q_112_25, q_112_28, q_112_29, q_112_30, q_112_31, q_112_34, q_112_35, q_112_36, q_112_37, q_112_38, q_112_39, q_112_42, q_112_43, q_112_44, q_112_45, q_112_48, q_112_49, q_112_50, q_112_51, q_112_52, q_112_53, q_112_56, q_112_57, q_112_58, q_112_61, q_112_64, q_112_65, zk_38, zs_38_1, zr_38_1, zs_38_2, zr_38_2, zs_38_3, zr_38_3, zs_38_4, zr_38_4, zs_38_8, zr_38_8, zs_38_17, zr_38_17, zs_38_18, zr_38_18, zs_38_19, zr_38_19, zs_38_22, zr_38_22, zs_38_23, zr_38_23, zs_38_25, zr_38_25, zs_38_26, zr_38_26, zs_38_28, zr_38_28, zs_38_29, zr_38_29, hZ, h1, Nat.sub_zero, Int32.le_refl]
    | succ f ih =>
      intro a su hf ha
      obtain ⟨f0, f1, f2⟩ := ixs (j := a) (by omega)
      have f3 : ¬ nI N ≤ nI (N - (f + 1)) := nI_ge (by omega) (by omega)
      have f4 : a < 10 := by omega
      have f5 : nI (N - (f + 1)) + 1 = nI (N - f) := by rw [nI_1]; congr 1; omega
      have hwk := X7_wakes (J := J) hZ h0 f4
      have hlt := X7_lateOf (I := I) (J := J) hZ f4
      rw [h4] at hlt
      rw [q_112_7, roF]
      by_cases q1 : gd (I 39) (I 40) (I 41) w sl a = true
      · obtain ⟨e1, e2⟩ := gd_hn h3 h2 f4 q1
        by_cases q2 : I 41 a = 3
        · rw [if_neg (fun z => z.2 q2)]
          simp (decide := true) only [gN1_int, gN1_ref, gN1_null, gN1_long, gTg8_8, gTg8_14, gTg9_9, gTg9_13, gTgA_8, gTgA_9, gTgA_10, gTgA_11, gTgA_13, gTgA_14, gB01_0, gB01_1, gB01_b, List.cons_append, List.nil_append, Option.toList_some, Option.toList_none, Option.bind_some, ↓reduceIte, eq_self, not_true_eq_false, not_false_eq_true, b2i_0, b2i_1, up_eq, up_ne, up_up, up_sort, up_self, fl_at, nI_s, q_112_0, q_112_1, q_112_2, q_112_3, q_112_4, q_112_5, q_112_9, q_112_10, q_112_13, q_112_16, q_112_17, q_112_18, q_112_21, q_112_24, q_112_25, q_112_28, q_112_29, q_112_30, q_112_31, q_112_34, q_112_35, q_112_36, q_112_37, q_112_38, q_112_39, q_112_42, q_112_43, q_112_44, q_112_45, q_112_48, q_112_49, q_112_50, q_112_51, q_112_52, q_112_53, q_112_56, q_112_57, q_112_58, q_112_61, q_112_64, q_112_65, zk_38, zk_39, zk_41, zs_38_1, zr_38_1, zs_38_2, zr_38_2, zs_38_3, zr_38_3, zs_38_4, zr_38_4, zs_38_8, zr_38_8, zs_38_17, zr_38_17, zs_38_18, zr_38_18, zs_38_19, zr_38_19, zs_38_22, zr_38_22, zs_38_23, zr_38_23, zs_38_25, zr_38_25, zs_38_26, zr_38_26, zs_38_28, zr_38_28, zs_38_29, zr_38_29, hZ, h1, f0, f1, f2, f3, f4, hwk, q1, q2, Bool.true_eq_false]
        · rw [if_pos ⟨q1, q2⟩]
          by_cases q3 : hn (I 39) a = c
          · rw [if_pos q3]
            rw [q3] at e1
            simp (decide := true) only [gN1_int, gN1_ref, gN1_null, gN1_long, gTg8_8, gTg8_14, gTg9_9, gTg9_13, gTgA_8, gTgA_9, gTgA_10, gTgA_11, gTgA_13, gTgA_14, gB01_0, gB01_1, gB01_b, List.cons_append, List.nil_append, Option.toList_some, Option.toList_none, Option.bind_some, ↓reduceIte, eq_self, not_true_eq_false, not_false_eq_true, b2i_0, b2i_1, up_eq, up_ne, up_up, up_sort, up_self, fl_at, nI_s, q_112_0, q_112_1, q_112_2, q_112_3, q_112_4, q_112_5, q_112_9, q_112_10, q_112_13, q_112_16, q_112_17, q_112_18, q_112_21, q_112_24, q_112_25, q_112_28, q_112_29, q_112_30, q_112_31, q_112_34, q_112_35, q_112_36, q_112_37, q_112_38, q_112_39, q_112_42, q_112_43, q_112_44, q_112_45, q_112_48, q_112_49, q_112_50, q_112_51, q_112_52, q_112_53, q_112_56, q_112_57, q_112_58, q_112_61, q_112_64, q_112_65, zk_38, zk_39, zk_41, zs_38_1, zr_38_1, zs_38_2, zr_38_2, zs_38_3, zr_38_3, zs_38_4, zr_38_4, zs_38_8, zr_38_8, zs_38_17, zr_38_17, zs_38_18, zr_38_18, zs_38_19, zr_38_19, zs_38_22, zr_38_22, zs_38_23, zr_38_23, zs_38_25, zr_38_25, zs_38_26, zr_38_26, zs_38_28, zr_38_28, zs_38_29, zr_38_29, hZ, h1, f0, f1, f2, f3, f4, hwk, hlt, q1, q2, e1, Bool.true_eq_false]
          · rw [if_neg q3]
            have q3' : ¬ nI (hn (I 39) a) = nI c := fun z => q3 ((nI_eq (by omega) (by omega)).mp z)
            simp (decide := true) only [gN1_int, gN1_ref, gN1_null, gN1_long, gTg8_8, gTg8_14, gTg9_9, gTg9_13, gTgA_8, gTgA_9, gTgA_10, gTgA_11, gTgA_13, gTgA_14, gB01_0, gB01_1, gB01_b, List.cons_append, List.nil_append, Option.toList_some, Option.toList_none, Option.bind_some, ↓reduceIte, eq_self, not_true_eq_false, not_false_eq_true, b2i_0, b2i_1, up_eq, up_ne, up_up, up_sort, up_self, fl_at, nI_s, q_112_0, q_112_1, q_112_2, q_112_3, q_112_4, q_112_5, q_112_9, q_112_10, q_112_13, q_112_16, q_112_17, q_112_18, q_112_21, q_112_24, q_112_25, q_112_28, q_112_29, q_112_30, q_112_31, q_112_34, q_112_35, q_112_36, q_112_37, q_112_38, q_112_39, q_112_42, q_112_43, q_112_44, q_112_45, q_112_48, q_112_49, q_112_50, q_112_51, q_112_52, q_112_53, q_112_56, q_112_57, q_112_58, q_112_61, q_112_64, q_112_65, zk_38, zk_39, zk_41, zs_38_1, zr_38_1, zs_38_2, zr_38_2, zs_38_3, zr_38_3, zs_38_4, zr_38_4, zs_38_8, zr_38_8, zs_38_17, zr_38_17, zs_38_18, zr_38_18, zs_38_19, zr_38_19, zs_38_22, zr_38_22, zs_38_23, zr_38_23, zs_38_25, zr_38_25, zs_38_26, zr_38_26, zs_38_28, zr_38_28, zs_38_29, zr_38_29, hZ, h1, f0, f1, f2, f3, f4, f5, hwk, hlt, q1, q2, e1, q3', Bool.true_eq_false]
            exact ih _ _ (by omega) e2
      · rw [if_neg (fun z => q1 z.1)]
        have q1' : gd (I 39) (I 40) (I 41) w sl a = false := by simpa using q1
        simp (decide := true) only [gN1_int, gN1_ref, gN1_null, gN1_long, gTg8_8, gTg8_14, gTg9_9, gTg9_13, gTgA_8, gTgA_9, gTgA_10, gTgA_11, gTgA_13, gTgA_14, gB01_0, gB01_1, gB01_b, List.cons_append, List.nil_append, Option.toList_some, Option.toList_none, Option.bind_some, ↓reduceIte, eq_self, not_true_eq_false, not_false_eq_true, b2i_0, b2i_1, up_eq, up_ne, up_up, up_sort, up_self, fl_at, nI_s, q_112_0, q_112_1, q_112_2, q_112_3, q_112_4, q_112_5, q_112_9, q_112_10, q_112_13, q_112_16, q_112_17, q_112_18, q_112_21, q_112_24, q_112_25, q_112_28, q_112_29, q_112_30, q_112_31, q_112_34, q_112_35, q_112_36, q_112_37, q_112_38, q_112_39, q_112_42, q_112_43, q_112_44, q_112_45, q_112_48, q_112_49, q_112_50, q_112_51, q_112_52, q_112_53, q_112_56, q_112_57, q_112_58, q_112_61, q_112_64, q_112_65, zk_38, zk_39, zk_41, zs_38_1, zr_38_1, zs_38_2, zr_38_2, zs_38_3, zr_38_3, zs_38_4, zr_38_4, zs_38_8, zr_38_8, zs_38_17, zr_38_17, zs_38_18, zr_38_18, zs_38_19, zr_38_19, zs_38_22, zr_38_22, zs_38_23, zr_38_23, zs_38_25, zr_38_25, zs_38_26, zr_38_26, zs_38_28, zr_38_28, zs_38_29, zr_38_29, hZ, h1, f0, f1, f2, f3, f4, hwk, q1']
  simp (decide := true) only [gN1_int, gN1_ref, gN1_null, gN1_long, gTg8_8, gTg8_14, gTg9_9, gTg9_13, gTgA_8, gTgA_9, gTgA_10, gTgA_11, gTgA_13, gTgA_14, gB01_0, gB01_1, gB01_b, List.cons_append, List.nil_append, Option.toList_some, Option.toList_none, Option.bind_some, ↓reduceIte, eq_self, not_true_eq_false, not_false_eq_true, b2i_0, b2i_1, up_eq, up_ne, up_up, up_sort, up_self, fl_at, nI_s, q_112_0, q_112_1, q_112_2, q_112_3, q_112_4, q_112_5]
  have := key N c 0 (Nat.le_refl N) hc
  rw [Nat.sub_self, nI_0] at this
  exact this
theorem X7_firstOf (hZ : St Z) (h : HM I N w sl) {c g : Nat} (hc : c < N) (hg : g < N) : g_at 113 0 [.ref 38, .int (nI c), .int (nI g), .null, .null, .null, .null] [] Z I J = some (some (.int (mtF (I 39) (I 40) (I 41) (I 42) w sl N c g)), Z, I, J) := by
  have h0 := h
  obtain ⟨h1, h2, h3, h4, h5⟩ := h
  have hro := X7_roundOf (J := J) hZ h0 hc
  have fin : ∀ (a : Nat) (su ti : Int32) (l6 : Int32), a < N → g_at 113 82 [.ref 38, .int (nI c), .int (nI g), .int su, .int ti, .int (nI a), .int l6] [] Z I J = some (some (.int (if a = c then (if ti = 1 then su else if rdF (I 39) (I 40) (I 41) (I 42) w sl N c = -1 then -1 else su + (ti - 1) * rdF (I 39) (I 40) (I 41) (I 42) w sl N c) else -1)), Z, I, J) := by
    intro a su ti l6 ha
    by_cases q : a = c
    · subst q
      rw [if_pos rfl]
      by_cases q2 : ti = 1
      · simp (decide := true) only [gN1_int, gN1_ref, gN1_null, gN1_long, gTg8_8, gTg8_14, gTg9_9, gTg9_13, gTgA_8, gTgA_9, gTgA_10, gTgA_11, gTgA_13, gTgA_14, gB01_0, gB01_1, gB01_b, List.cons_append, List.nil_append, Option.toList_some, Option.toList_none, Option.bind_some, ↓reduceIte, eq_self, not_true_eq_false, not_false_eq_true, b2i_0, b2i_1, up_eq, up_ne, up_up, up_sort, up_self, fl_at, nI_s, q_113_82, q_113_84, q_113_85, q_113_88, q_113_89, q_113_90, q_113_91, q_113_92, q_113_95, q_113_97, q_113_99, q_113_100, q_113_103, q_113_104, q_113_107, q_113_109, q_113_110, q_113_113, q_113_114, q_113_117, q_113_118, q_113_120, q_113_121, q_113_122, q_113_124, q_113_125, q_113_126, zk_38, zs_38_1, zr_38_1, zs_38_2, zr_38_2, zs_38_3, zr_38_3, zs_38_4, zr_38_4, zs_38_8, zr_38_8, zs_38_17, zr_38_17, zs_38_18, zr_38_18, zs_38_19, zr_38_19, zs_38_22, zr_38_22, zs_38_23, zr_38_23, zs_38_25, zr_38_25, zs_38_26, zr_38_26, zs_38_28, zr_38_28, zs_38_29, zr_38_29, hZ, hro, q2]
      · by_cases q3 : rdF (I 39) (I 40) (I 41) (I 42) w sl N a = -1
        · simp (decide := true) only [gN1_int, gN1_ref, gN1_null, gN1_long, gTg8_8, gTg8_14, gTg9_9, gTg9_13, gTgA_8, gTgA_9, gTgA_10, gTgA_11, gTgA_13, gTgA_14, gB01_0, gB01_1, gB01_b, List.cons_append, List.nil_append, Option.toList_some, Option.toList_none, Option.bind_some, ↓reduceIte, eq_self, not_true_eq_false, not_false_eq_true, b2i_0, b2i_1, up_eq, up_ne, up_up, up_sort, up_self, fl_at, nI_s, q_113_82, q_113_84, q_113_85, q_113_88, q_113_89, q_113_90, q_113_91, q_113_92, q_113_95, q_113_97, q_113_99, q_113_100, q_113_103, q_113_104, q_113_107, q_113_109, q_113_110, q_113_113, q_113_114, q_113_117, q_113_118, q_113_120, q_113_121, q_113_122, q_113_124, q_113_125, q_113_126, zk_38, zs_38_1, zr_38_1, zs_38_2, zr_38_2, zs_38_3, zr_38_3, zs_38_4, zr_38_4, zs_38_8, zr_38_8, zs_38_17, zr_38_17, zs_38_18, zr_38_18, zs_38_19, zr_38_19, zs_38_22, zr_38_22, zs_38_23, zr_38_23, zs_38_25, zr_38_25, zs_38_26, zr_38_26, zs_38_28, zr_38_28, zs_38_29, zr_38_29, hZ, hro, q2, q3]
        · simp (decide := true) only [gN1_int, gN1_ref, gN1_null, gN1_long, gTg8_8, gTg8_14, gTg9_9, gTg9_13, gTgA_8, gTgA_9, gTgA_10, gTgA_11, gTgA_13, gTgA_14, gB01_0, gB01_1, gB01_b, List.cons_append, List.nil_append, Option.toList_some, Option.toList_none, Option.bind_some, ↓reduceIte, eq_self, not_true_eq_false, not_false_eq_true, b2i_0, b2i_1, up_eq, up_ne, up_up, up_sort, up_self, fl_at, nI_s, q_113_82, q_113_84, q_113_85, q_113_88, q_113_89, q_113_90, q_113_91, q_113_92, q_113_95, q_113_97, q_113_99, q_113_100, q_113_103, q_113_104, q_113_107, q_113_109, q_113_110, q_113_113, q_113_114, q_113_117, q_113_118, q_113_120, q_113_121, q_113_122, q_113_124, q_113_125, q_113_126, zk_38, zs_38_1, zr_38_1, zs_38_2, zr_38_2, zs_38_3, zr_38_3, zs_38_4, zr_38_4, zs_38_8, zr_38_8, zs_38_17, zr_38_17, zs_38_18, zr_38_18, zs_38_19, zr_38_19, zs_38_22, zr_38_22, zs_38_23, zr_38_23, zs_38_25, zr_38_25, zs_38_26, zr_38_26, zs_38_28, zr_38_28, zs_38_29, zr_38_29, hZ, hro, q2, q3]
    · have q' : ¬ nI a = nI c := fun z => q ((nI_eq (by omega) (by omega)).mp z)
      rw [if_neg q]
      simp (decide := true) only [gN1_int, gN1_ref, gN1_null, gN1_long, gTg8_8, gTg8_14, gTg9_9, gTg9_13, gTgA_8, gTgA_9, gTgA_10, gTgA_11, gTgA_13, gTgA_14, gB01_0, gB01_1, gB01_b, List.cons_append, List.nil_append, Option.toList_some, Option.toList_none, Option.bind_some, ↓reduceIte, eq_self, not_true_eq_false, not_false_eq_true, b2i_0, b2i_1, up_eq, up_ne, up_up, up_sort, up_self, fl_at, nI_s, q_113_82, q_113_84, q_113_85, q_113_88, q_113_89, q_113_90, q_113_91, q_113_92, q_113_95, q_113_97, q_113_99, q_113_100, q_113_103, q_113_104, q_113_107, q_113_109, q_113_110, q_113_113, q_113_114, q_113_117, q_113_118, q_113_120, q_113_121, q_113_122, q_113_124, q_113_125, q_113_126, zk_38, zs_38_1, zr_38_1, zs_38_2, zr_38_2, zs_38_3, zr_38_3, zs_38_4, zr_38_4, zs_38_8, zr_38_8, zs_38_17, zr_38_17, zs_38_18, zr_38_18, zs_38_19, zr_38_19, zs_38_22, zr_38_22, zs_38_23, zr_38_23, zs_38_25, zr_38_25, zs_38_26, zr_38_26, zs_38_28, zr_38_28, zs_38_29, zr_38_29, hZ, q']
  have key : ∀ (f a : Nat) (su ti : Int32), f ≤ N + 1 → a < N → g_at 113 11 [.ref 38, .int (nI c), .int (nI g), .int su, .int ti, .int (nI a), .int (nI (N + 1 - f))] [] Z I J = some (some (.int (match fiF (I 39) (I 40) (I 41) (I 42) w sl c f a su ti with | none => -1 | some (su, ti) => if ti = 1 then su else if rdF (I 39) (I 40) (I 41) (I 42) w sl N c = -1 then -1 else su + (ti - 1) * rdF (I 39) (I 40) (I 41) (I 42) w sl N c)), Z, I, J) := by
    intro f
    induction f with
    | zero =>
      intro a su ti _ ha
      have f3 : nI N < nI (N + 1 - 0) := nI_lt (by omega) (by omega)
      rw [q_113_11, fiF]
      simp (decide := true) only [gN1_int, gN1_ref, gN1_null, gN1_long, gTg8_8, gTg8_14, gTg9_9, gTg9_13, gTgA_8, gTgA_9, gTgA_10, gTgA_11, gTgA_13, gTgA_14, gB01_0, gB01_1, gB01_b, List.cons_append, List.nil_append, Option.toList_some, Option.toList_none, Option.bind_some, ↓reduceIte, eq_self, not_true_eq_false, not_false_eq_true, b2i_0, b2i_1, up_eq, up_ne, up_up, up_sort, up_self, fl_at, nI_s, q_113_13, q_113_14, q_113_17, zk_38, zs_38_1, zr_38_1, zs_38_2, zr_38_2, zs_38_3, zr_38_3, zs_38_4, zr_38_4, zs_38_8, zr_38_8, zs_38_17, zr_38_17, zs_38_18, zr_38_18, zs_38_19, zr_38_19, zs_38_22, zr_38_22, zs_38_23, zr_38_23, zs_38_25, zr_38_25, zs_38_26, zr_38_26, zs_38_28, zr_38_28, zs_38_29, zr_38_29, hZ, h1, f3]
      rw [fin a su ti _ ha]
      by_cases q : a = c
      · rw [if_pos q, if_pos q]
      · rw [if_neg q, if_neg q]
    | succ f ih =>
      intro a su ti hf ha
      obtain ⟨f0, f1, f2⟩ := ixs (j := a) (by omega)
      have f3 : ¬ nI N < nI (N + 1 - (f + 1)) := Int32.not_lt.mpr (nI_le (by omega) (by omega))
      have f4 : a < 10 := by omega
      have f5 : nI (N + 1 - (f + 1)) + 1 = nI (N + 1 - f) := by rw [nI_1]; congr 1; omega
      have hwk := X7_wakes (J := J) hZ h0 f4
      have hlt := X7_lateOf (I := I) (J := J) hZ f4
      rw [h4] at hlt
      rw [q_113_11, fiF]
      by_cases q : a = c
      · rw [if_pos q]
        have q' : nI a = nI c := by rw [q]
        simp (decide := true) only [gN1_int, gN1_ref, gN1_null, gN1_long, gTg8_8, gTg8_14, gTg9_9, gTg9_13, gTgA_8, gTgA_9, gTgA_10, gTgA_11, gTgA_13, gTgA_14, gB01_0, gB01_1, gB01_b, List.cons_append, List.nil_append, Option.toList_some, Option.toList_none, Option.bind_some, ↓reduceIte, eq_self, not_true_eq_false, not_false_eq_true, b2i_0, b2i_1, up_eq, up_ne, up_up, up_sort, up_self, fl_at, nI_s, q_113_13, q_113_14, q_113_17, q_113_20, q_113_22, q_113_23, zk_38, zs_38_1, zr_38_1, zs_38_2, zr_38_2, zs_38_3, zr_38_3, zs_38_4, zr_38_4, zs_38_8, zr_38_8, zs_38_17, zr_38_17, zs_38_18, zr_38_18, zs_38_19, zr_38_19, zs_38_22, zr_38_22, zs_38_23, zr_38_23, zs_38_25, zr_38_25, zs_38_26, zr_38_26, zs_38_28, zr_38_28, zs_38_29, zr_38_29, hZ, h1, f3, q']
        have := fin a su ti (nI (N + 1 - (f + 1))) ha
        rw [if_pos q, q'] at this
        exact this
      · have q' : ¬ nI a = nI c := fun z => q ((nI_eq (by omega) (by omega)).mp z)
        rw [if_neg q]
        by_cases q1 : gd (I 39) (I 40) (I 41) w sl a = true
        · obtain ⟨e1, e2⟩ := gd_hn h3 h2 f4 q1
          rw [if_pos q1]
          by_cases q2 : I 41 a = 3
          · rw [if_pos q2]
            simp (decide := true) only [gN1_int, gN1_ref, gN1_null, gN1_long, gTg8_8, gTg8_14, gTg9_9, gTg9_13, gTgA_8, gTgA_9, gTgA_10, gTgA_11, gTgA_13, gTgA_14, gB01_0, gB01_1, gB01_b, List.cons_append, List.nil_append, Option.toList_some, Option.toList_none, Option.bind_some, ↓reduceIte, eq_self, not_true_eq_false, not_false_eq_true, b2i_0, b2i_1, up_eq, up_ne, up_up, up_sort, up_self, fl_at, nI_s, q_113_13, q_113_14, q_113_17, q_113_20, q_113_22, q_113_23, q_113_26, q_113_27, q_113_29, q_113_32, q_113_35, q_113_36, q_113_37, q_113_38, q_113_39, q_113_41, q_113_44, q_113_45, q_113_46, q_113_48, q_113_49, q_113_52, q_113_54, q_113_55, q_113_56, q_113_59, q_113_60, q_113_63, q_113_64, q_113_65, q_113_67, q_113_68, q_113_71, q_113_73, q_113_74, q_113_76, q_113_79, zk_38, zk_39, zk_41, zs_38_1, zr_38_1, zs_38_2, zr_38_2, zs_38_3, zr_38_3, zs_38_4, zr_38_4, zs_38_8, zr_38_8, zs_38_17, zr_38_17, zs_38_18, zr_38_18, zs_38_19, zr_38_19, zs_38_22, zr_38_22, zs_38_23, zr_38_23, zs_38_25, zr_38_25, zs_38_26, zr_38_26, zs_38_28, zr_38_28, zs_38_29, zr_38_29, hZ, h1, f0, f1, f2, f3, f4, f5, q', hwk, hlt, q1, q2, e1, Bool.true_eq_false]
            exact ih _ _ _ (by omega) e2
          · rw [if_neg q2]
            simp (decide := true) only [gN1_int, gN1_ref, gN1_null, gN1_long, gTg8_8, gTg8_14, gTg9_9, gTg9_13, gTgA_8, gTgA_9, gTgA_10, gTgA_11, gTgA_13, gTgA_14, gB01_0, gB01_1, gB01_b, List.cons_append, List.nil_append, Option.toList_some, Option.toList_none, Option.bind_some, ↓reduceIte, eq_self, not_true_eq_false, not_false_eq_true, b2i_0, b2i_1, up_eq, up_ne, up_up, up_sort, up_self, fl_at, nI_s, q_113_13, q_113_14, q_113_17, q_113_20, q_113_22, q_113_23, q_113_26, q_113_27, q_113_29, q_113_32, q_113_35, q_113_36, q_113_37, q_113_38, q_113_39, q_113_41, q_113_44, q_113_45, q_113_46, q_113_48, q_113_49, q_113_52, q_113_54, q_113_55, q_113_56, q_113_59, q_113_60, q_113_63, q_113_64, q_113_65, q_113_67, q_113_68, q_113_71, q_113_73, q_113_74, q_113_76, q_113_79, zk_38, zk_39, zk_41, zs_38_1, zr_38_1, zs_38_2, zr_38_2, zs_38_3, zr_38_3, zs_38_4, zr_38_4, zs_38_8, zr_38_8, zs_38_17, zr_38_17, zs_38_18, zr_38_18, zs_38_19, zr_38_19, zs_38_22, zr_38_22, zs_38_23, zr_38_23, zs_38_25, zr_38_25, zs_38_26, zr_38_26, zs_38_28, zr_38_28, zs_38_29, zr_38_29, hZ, h1, f0, f1, f2, f3, f4, f5, q', hwk, hlt, q1, q2, e1, Bool.true_eq_false]
            exact ih _ _ _ (by omega) e2
        · rw [if_neg q1]
          have q1' : gd (I 39) (I 40) (I 41) w sl a = false := by simpa using q1
          simp (decide := true) only [gN1_int, gN1_ref, gN1_null, gN1_long, gTg8_8, gTg8_14, gTg9_9, gTg9_13, gTgA_8, gTgA_9, gTgA_10, gTgA_11, gTgA_13, gTgA_14, gB01_0, gB01_1, gB01_b, List.cons_append, List.nil_append, Option.toList_some, Option.toList_none, Option.bind_some, ↓reduceIte, eq_self, not_true_eq_false, not_false_eq_true, b2i_0, b2i_1, up_eq, up_ne, up_up, up_sort, up_self, fl_at, nI_s, q_113_13, q_113_14, q_113_17, q_113_20, q_113_22, q_113_23, q_113_26, q_113_27, q_113_29, q_113_32, q_113_35, q_113_36, q_113_37, q_113_38, q_113_39, q_113_41, q_113_44, q_113_45, q_113_46, q_113_48, q_113_49, q_113_52, q_113_54, q_113_55, q_113_56, q_113_59, q_113_60, q_113_63, q_113_64, q_113_65, q_113_67, q_113_68, q_113_71, q_113_73, q_113_74, q_113_76, q_113_79, zk_38, zk_39, zk_41, zs_38_1, zr_38_1, zs_38_2, zr_38_2, zs_38_3, zr_38_3, zs_38_4, zr_38_4, zs_38_8, zr_38_8, zs_38_17, zr_38_17, zs_38_18, zr_38_18, zs_38_19, zr_38_19, zs_38_22, zr_38_22, zs_38_23, zr_38_23, zs_38_25, zr_38_25, zs_38_26, zr_38_26, zs_38_28, zr_38_28, zs_38_29, zr_38_29, hZ, h1, f0, f1, f2, f3, f4, q', hwk, q1']
  simp (decide := true) only [gN1_int, gN1_ref, gN1_null, gN1_long, gTg8_8, gTg8_14, gTg9_9, gTg9_13, gTgA_8, gTgA_9, gTgA_10, gTgA_11, gTgA_13, gTgA_14, gB01_0, gB01_1, gB01_b, List.cons_append, List.nil_append, Option.toList_some, Option.toList_none, Option.bind_some, ↓reduceIte, eq_self, not_true_eq_false, not_false_eq_true, b2i_0, b2i_1, up_eq, up_ne, up_up, up_sort, up_self, fl_at, nI_s, q_113_0, q_113_1, q_113_2, q_113_3, q_113_5, q_113_6, q_113_8, q_113_9]
  have := key (N + 1) g 0 1 (Nat.le_refl _) hg
  rw [Nat.sub_self, nI_0] at this
  exact this
theorem X7_layFirst (hZ : St Z) (h : HM I N w sl) {c : Nat} (hc : c < N) : g_at 114 0 [.ref 38, .int (nI c), .null, .null] [] Z I J = some (some (.int (bitsOf (whoP (I 39) (I 40) (I 41) (I 42) w sl N c) N)), Z, va_up I 50 (fl (mtF (I 39) (I 40) (I 41) (I 42) w sl N c) (I 50) N), J) := by
  have h0 := h
  obtain ⟨h1, h2, h3, h4, h5⟩ := h
  have key := loop_eq (fun i => g_at 114 4 [.ref 38, .int (nI c), .int (bitsOf (whoP (I 39) (I 40) (I 41) (I 42) w sl N c) i), .int (nI i)] [] Z (va_up I 50 (fl (mtF (I 39) (I 40) (I 41) (I 42) w sl N c) (I 50) i)) J) (n := N) (fun i hi => by
    obtain ⟨f0, f1, f2⟩ := ixs (j := i) (by omega)
    have f3 : ¬ nI N ≤ nI i := nI_ge hi (by omega)
    have f4 : i < 10 := by omega
    have hF2 : HM (va_up I 50 (fl (mtF (I 39) (I 40) (I 41) (I 42) w sl N c) (I 50) i)) N w sl := by
      unfold HM at h0 ⊢
      simp (decide := true) only [up_ne]
      exact h0
    have hfi := X7_firstOf (J := J) hZ hF2 hc hi
    simp (decide := true) only [up_ne] at hfi
    try dsimp only
    rw [q_114_4]
    by_cases q : mtF (I 39) (I 40) (I 41) (I 42) w sl N c i = -1
    · simp (decide := true) only [gN1_int, gN1_ref, gN1_null, gN1_long, gTg8_8, gTg8_14, gTg9_9, gTg9_13, gTgA_8, gTgA_9, gTgA_10, gTgA_11, gTgA_13, gTgA_14, gB01_0, gB01_1, gB01_b, List.cons_append, List.nil_append, Option.toList_some, Option.toList_none, Option.bind_some, ↓reduceIte, eq_self, not_true_eq_false, not_false_eq_true, b2i_0, b2i_1, up_eq, up_ne, up_up, up_sort, up_self, fl_at, nI_s, q_114_0, q_114_1, q_114_2, q_114_3, q_114_5, q_114_6, q_114_9, q_114_12, q_114_13, q_114_16, q_114_17, q_114_18, q_114_19, q_114_20, q_114_23, q_114_24, q_114_25, q_114_26, q_114_29, q_114_30, q_114_31, q_114_32, q_114_35, q_114_36, q_114_39, q_114_40, q_114_41, q_114_42, q_114_43, q_114_44, q_114_47, q_114_50, q_114_51, zk_38, zk_50, zs_38_1, zr_38_1, zs_38_2, zr_38_2, zs_38_3, zr_38_3, zs_38_4, zr_38_4, zs_38_8, zr_38_8, zs_38_17, zr_38_17, zs_38_18, zr_38_18, zs_38_19, zr_38_19, zs_38_22, zr_38_22, zs_38_23, zr_38_23, zs_38_25, zr_38_25, zs_38_26, zr_38_26, zs_38_28, zr_38_28, zs_38_29, zr_38_29, hZ, h1, f0, f1, f2, f3, f4, hfi, q, bitsOf_s (k := i), whoP, fl_next, decide_true, Bool.not_true, Bool.false_eq_true, Int32.or_zero]
    · simp (decide := true) only [gN1_int, gN1_ref, gN1_null, gN1_long, gTg8_8, gTg8_14, gTg9_9, gTg9_13, gTgA_8, gTgA_9, gTgA_10, gTgA_11, gTgA_13, gTgA_14, gB01_0, gB01_1, gB01_b, List.cons_append, List.nil_append, Option.toList_some, Option.toList_none, Option.bind_some, ↓reduceIte, eq_self, not_true_eq_false, not_false_eq_true, b2i_0, b2i_1, up_eq, up_ne, up_up, up_sort, up_self, fl_at, nI_s, q_114_0, q_114_1, q_114_2, q_114_3, q_114_5, q_114_6, q_114_9, q_114_12, q_114_13, q_114_16, q_114_17, q_114_18, q_114_19, q_114_20, q_114_23, q_114_24, q_114_25, q_114_26, q_114_29, q_114_30, q_114_31, q_114_32, q_114_35, q_114_36, q_114_39, q_114_40, q_114_41, q_114_42, q_114_43, q_114_44, q_114_47, q_114_50, q_114_51, zk_38, zk_50, zs_38_1, zr_38_1, zs_38_2, zr_38_2, zs_38_3, zr_38_3, zs_38_4, zr_38_4, zs_38_8, zr_38_8, zs_38_17, zr_38_17, zs_38_18, zr_38_18, zs_38_19, zr_38_19, zs_38_22, zr_38_22, zs_38_23, zr_38_23, zs_38_25, zr_38_25, zs_38_26, zr_38_26, zs_38_28, zr_38_28, zs_38_29, zr_38_29, hZ, h1, f0, f1, f2, f3, f4, hfi, q, bitsOf_s (k := i), whoP, fl_next, decide_false, Bool.not_false])
  simp (decide := true) only [fl_0, up_self, nI_0, bitsOf_0] at key
  simp (decide := true) only [gN1_int, gN1_ref, gN1_null, gN1_long, gTg8_8, gTg8_14, gTg9_9, gTg9_13, gTgA_8, gTgA_9, gTgA_10, gTgA_11, gTgA_13, gTgA_14, gB01_0, gB01_1, gB01_b, List.cons_append, List.nil_append, Option.toList_some, Option.toList_none, Option.bind_some, ↓reduceIte, eq_self, not_true_eq_false, not_false_eq_true, b2i_0, b2i_1, up_eq, up_ne, up_up, up_sort, up_self, fl_at, nI_s, q_114_0, q_114_1, q_114_2, q_114_3]
  rw [key, q_114_4]
  simp (decide := true) only [gN1_int, gN1_ref, gN1_null, gN1_long, gTg8_8, gTg8_14, gTg9_9, gTg9_13, gTgA_8, gTgA_9, gTgA_10, gTgA_11, gTgA_13, gTgA_14, gB01_0, gB01_1, gB01_b, List.cons_append, List.nil_append, Option.toList_some, Option.toList_none, Option.bind_some, ↓reduceIte, eq_self, not_true_eq_false, not_false_eq_true, b2i_0, b2i_1, up_eq, up_ne, up_up, up_sort, up_self, fl_at, nI_s, q_114_0, q_114_1, q_114_2, q_114_3, q_114_5, q_114_6, q_114_9, q_114_12, q_114_13, q_114_16, q_114_17, q_114_18, q_114_19, q_114_20, q_114_23, q_114_24, q_114_25, q_114_26, q_114_29, q_114_30, q_114_31, q_114_32, q_114_35, q_114_36, q_114_39, q_114_40, q_114_41, q_114_42, q_114_43, q_114_44, q_114_47, q_114_50, q_114_51, zk_38, zs_38_1, zr_38_1, zs_38_2, zr_38_2, zs_38_3, zr_38_3, zs_38_4, zr_38_4, zs_38_8, zr_38_8, zs_38_17, zr_38_17, zs_38_18, zr_38_18, zs_38_19, zr_38_19, zs_38_22, zr_38_22, zs_38_23, zr_38_23, zs_38_25, zr_38_25, zs_38_26, zr_38_26, zs_38_28, zr_38_28, zs_38_29, zr_38_29, hZ, h1, Int32.le_refl]
end
