/-! Way and Foretelling -/
section
variable {Z : gZ} {I : gI} {J : gJ}
theorem X5_trace_36 (hZ : St Z) {w sl : Int32} {N c g : Nat} (hN : I 31 4 = nI N) (hN2 : N ≤ 10) (hw : Hw (I 32) N) (hc : c < N) (hg : g < N) : g_at 51 0 [.ref 36, .ref 31, .int w, .int sl, .int (nI c), .int (nI g), .null, .null] [] Z I J = some (some (.int (b2i (trF (I 32) (I 33) (I 34) (I 35) w sl c 10 g 0 0 0).1)), Z, va_up I 36 (va_up (va_up (va_up (I 36) 0 (trF (I 32) (I 33) (I 34) (I 35) w sl c 10 g 0 0 0).2.1) 1 (trF (I 32) (I 33) (I 34) (I 35) w sl c 10 g 0 0 0).2.2.1) 2 (trF (I 32) (I 33) (I 34) (I 35) w sl c 10 g 0 0 0).2.2.2), J) := by
  have key : ∀ (f at_ : Nat) (mi dd mo : Int32), f ≤ 10 → at_ < N → g_at 51 22 [.ref 36, .ref 31, .int w, .int sl, .int (nI c), .int (nI g), .int (nI at_), .int (nI (10 - f))] [] Z (va_up I 36 (va_up (va_up (va_up (I 36) 0 mi) 1 dd) 2 mo)) J = some (some (.int (b2i (trF (I 32) (I 33) (I 34) (I 35) w sl c f at_ mi dd mo).1)), Z, va_up I 36 (va_up (va_up (va_up (I 36) 0 (trF (I 32) (I 33) (I 34) (I 35) w sl c f at_ mi dd mo).2.1) 1 (trF (I 32) (I 33) (I 34) (I 35) w sl c f at_ mi dd mo).2.2.1) 2 (trF (I 32) (I 33) (I 34) (I 35) w sl c f at_ mi dd mo).2.2.2), J) := by
    intro f
    induction f with
    | zero =>
      intro at_ mi dd mo _ _
      rw [q_51_22, trF]
      simp (decide := true) only [gN1_int, gN1_ref, gN1_null, gN1_long, gTg8_8, gTg8_14, gTg9_9, gTg9_13, gTgA_8, gTgA_9, gTgA_10, gTgA_11, gTgA_13, gTgA_14, gB01_0, gB01_1, gB01_b, List.cons_append, List.nil_append, Option.toList_some, Option.toList_none, Option.bind_some, ↓reduceIte, eq_self, not_true_eq_false, not_false_eq_true, b2i_0, b2i_1, up_eq, up_ne, up_up, up_sort, up_self, fl_at, nI_s, q_51_0, q_51_1, q_51_2, q_51_5, q_51_6, q_51_7, q_51_10, q_51_11, q_51_12, q_51_15, q_51_17, q_51_19, q_51_20, q_51_24, q_51_26, q_51_29, q_51_31, q_51_32, q_51_35, q_51_36, q_51_38, q_51_39, q_51_42, q_51_45, q_51_46, q_51_47, q_51_48, q_51_49, q_51_52, q_51_53, q_51_55, q_51_56, q_51_59, q_51_60, q_51_63, q_51_64, q_51_65, q_51_68, q_51_69, q_51_72, q_51_74, q_51_75, q_51_76, q_51_79, q_51_80, q_51_83, q_51_84, q_51_85, q_51_88, q_51_89, q_51_90, q_51_93, q_51_94, q_51_95, q_51_98, q_51_99, q_51_102, q_51_104, q_51_105, q_51_107, q_51_109, q_51_111, q_51_114, q_51_115, q_51_116, q_51_119, q_51_122, q_51_123, show (10 : Int32) ≤ nI (10 - 0) from by decide]
      rfl
    | succ f ih =>
      intro at_ mi dd mo hf ha
      obtain ⟨f0, f1, f2⟩ := ixs (j := at_) (by omega)
      have f3 : ¬ (10 : Int32) ≤ nI (10 - (f + 1)) := nI_ge (b := 10) (by omega) (by omega)
      have f4 : at_ < 10 := by omega
      have f5 : nI (10 - (f + 1)) + 1 = nI (10 - f) := by rw [nI_1]; congr 1; omega
      rw [q_51_22, trF]
      by_cases h1 : nI at_ = sl
      · have hgd : ¬ gd (I 32) (I 33) (I 34) w sl at_ = true := by simp [gd, h1]
        rw [if_neg hgd]
        simp (decide := true) only [gN1_int, gN1_ref, gN1_null, gN1_long, gTg8_8, gTg8_14, gTg9_9, gTg9_13, gTgA_8, gTgA_9, gTgA_10, gTgA_11, gTgA_13, gTgA_14, gB01_0, gB01_1, gB01_b, List.cons_append, List.nil_append, Option.toList_some, Option.toList_none, Option.bind_some, ↓reduceIte, eq_self, not_true_eq_false, not_false_eq_true, b2i_0, b2i_1, up_eq, up_ne, up_up, up_sort, up_self, fl_at, nI_s, q_51_24, q_51_26, q_51_29, q_51_31, q_51_32, q_51_35, q_51_36, q_51_38, q_51_39, q_51_42, q_51_45, q_51_46, q_51_47, q_51_48, q_51_49, q_51_52, q_51_53, q_51_55, q_51_56, q_51_59, q_51_60, q_51_63, q_51_64, q_51_65, q_51_68, q_51_69, q_51_72, q_51_74, q_51_75, q_51_76, q_51_79, q_51_80, q_51_83, q_51_84, q_51_85, q_51_88, q_51_89, q_51_90, q_51_93, q_51_94, q_51_95, q_51_98, q_51_99, q_51_102, q_51_104, q_51_105, q_51_107, q_51_109, q_51_111, q_51_114, q_51_115, q_51_116, q_51_119, q_51_122, q_51_123, hZ, f3, h1]
        rfl
      · by_cases h2 : cH (I 32) (I 33) (I 34) w at_ = true
        · have hgd : gd (I 32) (I 33) (I 34) w sl at_ = true := by simp [gd, h1, h2]
          rw [if_pos hgd]
          obtain ⟨e1, e2⟩ := gd_hn hw hN2 f4 hgd
          by_cases h3 : hn (I 32) at_ = c
          · rw [if_pos h3]
            by_cases h4 : I 34 at_ = 3
            · simp (decide := true) only [gN1_int, gN1_ref, gN1_null, gN1_long, gTg8_8, gTg8_14, gTg9_9, gTg9_13, gTgA_8, gTgA_9, gTgA_10, gTgA_11, gTgA_13, gTgA_14, gB01_0, gB01_1, gB01_b, List.cons_append, List.nil_append, Option.toList_some, Option.toList_none, Option.bind_some, ↓reduceIte, eq_self, not_true_eq_false, not_false_eq_true, b2i_0, b2i_1, up_eq, up_ne, up_up, up_sort, up_self, fl_at, nI_s, q_51_24, q_51_26, q_51_29, q_51_31, q_51_32, q_51_35, q_51_36, q_51_38, q_51_39, q_51_42, q_51_45, q_51_46, q_51_47, q_51_48, q_51_49, q_51_52, q_51_53, q_51_55, q_51_56, q_51_59, q_51_60, q_51_63, q_51_64, q_51_65, q_51_68, q_51_69, q_51_72, q_51_74, q_51_75, q_51_76, q_51_79, q_51_80, q_51_83, q_51_84, q_51_85, q_51_88, q_51_89, q_51_90, q_51_93, q_51_94, q_51_95, q_51_98, q_51_99, q_51_102, q_51_104, q_51_105, q_51_107, q_51_109, q_51_111, q_51_114, q_51_115, q_51_116, q_51_119, q_51_122, q_51_123, zk_31, zk_32, zk_33, zk_34, zk_35, zk_36, zs_31_0, zr_31_0, zs_31_1, zr_31_1, zs_31_2, zr_31_2, zs_31_3, zr_31_3, hZ, f0, f1, f2, f3, f4, f5, h1, h2, h3, h4, ha, hN, hN2, e1, X0_canHear (N := N) (cl_31 hZ), X0_late (cl_31 hZ), Bool.true_eq_false]
              rfl
            · simp (decide := true) only [gN1_int, gN1_ref, gN1_null, gN1_long, gTg8_8, gTg8_14, gTg9_9, gTg9_13, gTgA_8, gTgA_9, gTgA_10, gTgA_11, gTgA_13, gTgA_14, gB01_0, gB01_1, gB01_b, List.cons_append, List.nil_append, Option.toList_some, Option.toList_none, Option.bind_some, ↓reduceIte, eq_self, not_true_eq_false, not_false_eq_true, b2i_0, b2i_1, up_eq, up_ne, up_up, up_sort, up_self, fl_at, nI_s, q_51_24, q_51_26, q_51_29, q_51_31, q_51_32, q_51_35, q_51_36, q_51_38, q_51_39, q_51_42, q_51_45, q_51_46, q_51_47, q_51_48, q_51_49, q_51_52, q_51_53, q_51_55, q_51_56, q_51_59, q_51_60, q_51_63, q_51_64, q_51_65, q_51_68, q_51_69, q_51_72, q_51_74, q_51_75, q_51_76, q_51_79, q_51_80, q_51_83, q_51_84, q_51_85, q_51_88, q_51_89, q_51_90, q_51_93, q_51_94, q_51_95, q_51_98, q_51_99, q_51_102, q_51_104, q_51_105, q_51_107, q_51_109, q_51_111, q_51_114, q_51_115, q_51_116, q_51_119, q_51_122, q_51_123, zk_31, zk_32, zk_33, zk_34, zk_35, zk_36, zs_31_0, zr_31_0, zs_31_1, zr_31_1, zs_31_2, zr_31_2, zs_31_3, zr_31_3, hZ, f0, f1, f2, f3, f4, f5, h1, h2, h3, h4, ha, hN, hN2, e1, X0_canHear (N := N) (cl_31 hZ), X0_late (cl_31 hZ), Bool.true_eq_false]
              rfl
          · have h3' : ¬ nI (hn (I 32) at_) = nI c := fun q => h3 ((nI_eq (by omega) (by omega)).mp q)
            rw [if_neg h3]
            by_cases h4 : I 34 at_ = 3
            · simp (decide := true) only [gN1_int, gN1_ref, gN1_null, gN1_long, gTg8_8, gTg8_14, gTg9_9, gTg9_13, gTgA_8, gTgA_9, gTgA_10, gTgA_11, gTgA_13, gTgA_14, gB01_0, gB01_1, gB01_b, List.cons_append, List.nil_append, Option.toList_some, Option.toList_none, Option.bind_some, ↓reduceIte, eq_self, not_true_eq_false, not_false_eq_true, b2i_0, b2i_1, up_eq, up_ne, up_up, up_sort, up_self, fl_at, nI_s, q_51_24, q_51_26, q_51_29, q_51_31, q_51_32, q_51_35, q_51_36, q_51_38, q_51_39, q_51_42, q_51_45, q_51_46, q_51_47, q_51_48, q_51_49, q_51_52, q_51_53, q_51_55, q_51_56, q_51_59, q_51_60, q_51_63, q_51_64, q_51_65, q_51_68, q_51_69, q_51_72, q_51_74, q_51_75, q_51_76, q_51_79, q_51_80, q_51_83, q_51_84, q_51_85, q_51_88, q_51_89, q_51_90, q_51_93, q_51_94, q_51_95, q_51_98, q_51_99, q_51_102, q_51_104, q_51_105, q_51_107, q_51_109, q_51_111, q_51_114, q_51_115, q_51_116, q_51_119, q_51_122, q_51_123, zk_31, zk_32, zk_33, zk_34, zk_35, zk_36, zs_31_0, zr_31_0, zs_31_1, zr_31_1, zs_31_2, zr_31_2, zs_31_3, zr_31_3, hZ, f0, f1, f2, f3, f4, f5, h1, h2, h3', h4, ha, hN, hN2, e1, X0_canHear (N := N) (cl_31 hZ), X0_late (cl_31 hZ), Bool.true_eq_false]
              exact ih _ _ _ _ (by omega) e2
            · simp (decide := true) only [gN1_int, gN1_ref, gN1_null, gN1_long, gTg8_8, gTg8_14, gTg9_9, gTg9_13, gTgA_8, gTgA_9, gTgA_10, gTgA_11, gTgA_13, gTgA_14, gB01_0, gB01_1, gB01_b, List.cons_append, List.nil_append, Option.toList_some, Option.toList_none, Option.bind_some, ↓reduceIte, eq_self, not_true_eq_false, not_false_eq_true, b2i_0, b2i_1, up_eq, up_ne, up_up, up_sort, up_self, fl_at, nI_s, q_51_24, q_51_26, q_51_29, q_51_31, q_51_32, q_51_35, q_51_36, q_51_38, q_51_39, q_51_42, q_51_45, q_51_46, q_51_47, q_51_48, q_51_49, q_51_52, q_51_53, q_51_55, q_51_56, q_51_59, q_51_60, q_51_63, q_51_64, q_51_65, q_51_68, q_51_69, q_51_72, q_51_74, q_51_75, q_51_76, q_51_79, q_51_80, q_51_83, q_51_84, q_51_85, q_51_88, q_51_89, q_51_90, q_51_93, q_51_94, q_51_95, q_51_98, q_51_99, q_51_102, q_51_104, q_51_105, q_51_107, q_51_109, q_51_111, q_51_114, q_51_115, q_51_116, q_51_119, q_51_122, q_51_123, zk_31, zk_32, zk_33, zk_34, zk_35, zk_36, zs_31_0, zr_31_0, zs_31_1, zr_31_1, zs_31_2, zr_31_2, zs_31_3, zr_31_3, hZ, f0, f1, f2, f3, f4, f5, h1, h2, h3', h4, ha, hN, hN2, e1, X0_canHear (N := N) (cl_31 hZ), X0_late (cl_31 hZ), Bool.true_eq_false]
              exact ih _ _ _ _ (by omega) e2
        · have h2 : cH (I 32) (I 33) (I 34) w at_ = false := by simpa using h2
          have hgd : ¬ gd (I 32) (I 33) (I 34) w sl at_ = true := by simp [gd, h2]
          rw [if_neg hgd]
          simp (decide := true) only [gN1_int, gN1_ref, gN1_null, gN1_long, gTg8_8, gTg8_14, gTg9_9, gTg9_13, gTgA_8, gTgA_9, gTgA_10, gTgA_11, gTgA_13, gTgA_14, gB01_0, gB01_1, gB01_b, List.cons_append, List.nil_append, Option.toList_some, Option.toList_none, Option.bind_some, ↓reduceIte, eq_self, not_true_eq_false, not_false_eq_true, b2i_0, b2i_1, up_eq, up_ne, up_up, up_sort, up_self, fl_at, nI_s, q_51_24, q_51_26, q_51_29, q_51_31, q_51_32, q_51_35, q_51_36, q_51_38, q_51_39, q_51_42, q_51_45, q_51_46, q_51_47, q_51_48, q_51_49, q_51_52, q_51_53, q_51_55, q_51_56, q_51_59, q_51_60, q_51_63, q_51_64, q_51_65, q_51_68, q_51_69, q_51_72, q_51_74, q_51_75, q_51_76, q_51_79, q_51_80, q_51_83, q_51_84, q_51_85, q_51_88, q_51_89, q_51_90, q_51_93, q_51_94, q_51_95, q_51_98, q_51_99, q_51_102, q_51_104, q_51_105, q_51_107, q_51_109, q_51_111, q_51_114, q_51_115, q_51_116, q_51_119, q_51_122, q_51_123, zk_31, zk_32, zk_33, zk_34, zk_35, zk_36, zs_31_0, zr_31_0, zs_31_1, zr_31_1, zs_31_2, zr_31_2, zs_31_3, zr_31_3, hZ, f0, f1, f2, f3, f4, f5, h1, h2, ha, hN, hN2, X0_canHear (N := N) (cl_31 hZ)]
          rfl
  simp (decide := true) only [gN1_int, gN1_ref, gN1_null, gN1_long, gTg8_8, gTg8_14, gTg9_9, gTg9_13, gTgA_8, gTgA_9, gTgA_10, gTgA_11, gTgA_13, gTgA_14, gB01_0, gB01_1, gB01_b, List.cons_append, List.nil_append, Option.toList_some, Option.toList_none, Option.bind_some, ↓reduceIte, eq_self, not_true_eq_false, not_false_eq_true, b2i_0, b2i_1, up_eq, up_ne, up_up, up_sort, up_self, fl_at, nI_s, q_51_0, q_51_1, q_51_2, q_51_5, q_51_6, q_51_7, q_51_10, q_51_11, q_51_12, q_51_15, q_51_17, q_51_19, q_51_20, zk_31, zk_32, zk_33, zk_34, zk_35, zk_36, zs_31_0, zr_31_0, zs_31_1, zr_31_1, zs_31_2, zr_31_2, zs_31_3, zr_31_3, hZ]
  exact key 10 g 0 0 0 (Nat.le_refl _) hg
theorem X5_trace_37 (hZ : St Z) {w sl : Int32} {N c g : Nat} (hN : I 31 4 = nI N) (hN2 : N ≤ 10) (hw : Hw (I 32) N) (hc : c < N) (hg : g < N) : g_at 51 0 [.ref 37, .ref 31, .int w, .int sl, .int (nI c), .int (nI g), .null, .null] [] Z I J = some (some (.int (b2i (trF (I 32) (I 33) (I 34) (I 35) w sl c 10 g 0 0 0).1)), Z, va_up I 37 (va_up (va_up (va_up (I 37) 0 (trF (I 32) (I 33) (I 34) (I 35) w sl c 10 g 0 0 0).2.1) 1 (trF (I 32) (I 33) (I 34) (I 35) w sl c 10 g 0 0 0).2.2.1) 2 (trF (I 32) (I 33) (I 34) (I 35) w sl c 10 g 0 0 0).2.2.2), J) := by
  have key : ∀ (f at_ : Nat) (mi dd mo : Int32), f ≤ 10 → at_ < N → g_at 51 22 [.ref 37, .ref 31, .int w, .int sl, .int (nI c), .int (nI g), .int (nI at_), .int (nI (10 - f))] [] Z (va_up I 37 (va_up (va_up (va_up (I 37) 0 mi) 1 dd) 2 mo)) J = some (some (.int (b2i (trF (I 32) (I 33) (I 34) (I 35) w sl c f at_ mi dd mo).1)), Z, va_up I 37 (va_up (va_up (va_up (I 37) 0 (trF (I 32) (I 33) (I 34) (I 35) w sl c f at_ mi dd mo).2.1) 1 (trF (I 32) (I 33) (I 34) (I 35) w sl c f at_ mi dd mo).2.2.1) 2 (trF (I 32) (I 33) (I 34) (I 35) w sl c f at_ mi dd mo).2.2.2), J) := by
    intro f
    induction f with
    | zero =>
      intro at_ mi dd mo _ _
      rw [q_51_22, trF]
      simp (decide := true) only [gN1_int, gN1_ref, gN1_null, gN1_long, gTg8_8, gTg8_14, gTg9_9, gTg9_13, gTgA_8, gTgA_9, gTgA_10, gTgA_11, gTgA_13, gTgA_14, gB01_0, gB01_1, gB01_b, List.cons_append, List.nil_append, Option.toList_some, Option.toList_none, Option.bind_some, ↓reduceIte, eq_self, not_true_eq_false, not_false_eq_true, b2i_0, b2i_1, up_eq, up_ne, up_up, up_sort, up_self, fl_at, nI_s, q_51_0, q_51_1, q_51_2, q_51_5, q_51_6, q_51_7, q_51_10, q_51_11, q_51_12, q_51_15, q_51_17, q_51_19, q_51_20, q_51_24, q_51_26, q_51_29, q_51_31, q_51_32, q_51_35, q_51_36, q_51_38, q_51_39, q_51_42, q_51_45, q_51_46, q_51_47, q_51_48, q_51_49, q_51_52, q_51_53, q_51_55, q_51_56, q_51_59, q_51_60, q_51_63, q_51_64, q_51_65, q_51_68, q_51_69, q_51_72, q_51_74, q_51_75, q_51_76, q_51_79, q_51_80, q_51_83, q_51_84, q_51_85, q_51_88, q_51_89, q_51_90, q_51_93, q_51_94, q_51_95, q_51_98, q_51_99, q_51_102, q_51_104, q_51_105, q_51_107, q_51_109, q_51_111, q_51_114, q_51_115, q_51_116, q_51_119, q_51_122, q_51_123, show (10 : Int32) ≤ nI (10 - 0) from by decide]
      rfl
    | succ f ih =>
      intro at_ mi dd mo hf ha
      obtain ⟨f0, f1, f2⟩ := ixs (j := at_) (by omega)
      have f3 : ¬ (10 : Int32) ≤ nI (10 - (f + 1)) := nI_ge (b := 10) (by omega) (by omega)
      have f4 : at_ < 10 := by omega
      have f5 : nI (10 - (f + 1)) + 1 = nI (10 - f) := by rw [nI_1]; congr 1; omega
      rw [q_51_22, trF]
      by_cases h1 : nI at_ = sl
      · have hgd : ¬ gd (I 32) (I 33) (I 34) w sl at_ = true := by simp [gd, h1]
        rw [if_neg hgd]
        simp (decide := true) only [gN1_int, gN1_ref, gN1_null, gN1_long, gTg8_8, gTg8_14, gTg9_9, gTg9_13, gTgA_8, gTgA_9, gTgA_10, gTgA_11, gTgA_13, gTgA_14, gB01_0, gB01_1, gB01_b, List.cons_append, List.nil_append, Option.toList_some, Option.toList_none, Option.bind_some, ↓reduceIte, eq_self, not_true_eq_false, not_false_eq_true, b2i_0, b2i_1, up_eq, up_ne, up_up, up_sort, up_self, fl_at, nI_s, q_51_24, q_51_26, q_51_29, q_51_31, q_51_32, q_51_35, q_51_36, q_51_38, q_51_39, q_51_42, q_51_45, q_51_46, q_51_47, q_51_48, q_51_49, q_51_52, q_51_53, q_51_55, q_51_56, q_51_59, q_51_60, q_51_63, q_51_64, q_51_65, q_51_68, q_51_69, q_51_72, q_51_74, q_51_75, q_51_76, q_51_79, q_51_80, q_51_83, q_51_84, q_51_85, q_51_88, q_51_89, q_51_90, q_51_93, q_51_94, q_51_95, q_51_98, q_51_99, q_51_102, q_51_104, q_51_105, q_51_107, q_51_109, q_51_111, q_51_114, q_51_115, q_51_116, q_51_119, q_51_122, q_51_123, hZ, f3, h1]
        rfl
      · by_cases h2 : cH (I 32) (I 33) (I 34) w at_ = true
        · have hgd : gd (I 32) (I 33) (I 34) w sl at_ = true := by simp [gd, h1, h2]
          rw [if_pos hgd]
          obtain ⟨e1, e2⟩ := gd_hn hw hN2 f4 hgd
          by_cases h3 : hn (I 32) at_ = c
          · rw [if_pos h3]
            by_cases h4 : I 34 at_ = 3
            · simp (decide := true) only [gN1_int, gN1_ref, gN1_null, gN1_long, gTg8_8, gTg8_14, gTg9_9, gTg9_13, gTgA_8, gTgA_9, gTgA_10, gTgA_11, gTgA_13, gTgA_14, gB01_0, gB01_1, gB01_b, List.cons_append, List.nil_append, Option.toList_some, Option.toList_none, Option.bind_some, ↓reduceIte, eq_self, not_true_eq_false, not_false_eq_true, b2i_0, b2i_1, up_eq, up_ne, up_up, up_sort, up_self, fl_at, nI_s, q_51_24, q_51_26, q_51_29, q_51_31, q_51_32, q_51_35, q_51_36, q_51_38, q_51_39, q_51_42, q_51_45, q_51_46, q_51_47, q_51_48, q_51_49, q_51_52, q_51_53, q_51_55, q_51_56, q_51_59, q_51_60, q_51_63, q_51_64, q_51_65, q_51_68, q_51_69, q_51_72, q_51_74, q_51_75, q_51_76, q_51_79, q_51_80, q_51_83, q_51_84, q_51_85, q_51_88, q_51_89, q_51_90, q_51_93, q_51_94, q_51_95, q_51_98, q_51_99, q_51_102, q_51_104, q_51_105, q_51_107, q_51_109, q_51_111, q_51_114, q_51_115, q_51_116, q_51_119, q_51_122, q_51_123, zk_31, zk_32, zk_33, zk_34, zk_35, zk_37, zs_31_0, zr_31_0, zs_31_1, zr_31_1, zs_31_2, zr_31_2, zs_31_3, zr_31_3, hZ, f0, f1, f2, f3, f4, f5, h1, h2, h3, h4, ha, hN, hN2, e1, X0_canHear (N := N) (cl_31 hZ), X0_late (cl_31 hZ), Bool.true_eq_false]
              rfl
            · simp (decide := true) only [gN1_int, gN1_ref, gN1_null, gN1_long, gTg8_8, gTg8_14, gTg9_9, gTg9_13, gTgA_8, gTgA_9, gTgA_10, gTgA_11, gTgA_13, gTgA_14, gB01_0, gB01_1, gB01_b, List.cons_append, List.nil_append, Option.toList_some, Option.toList_none, Option.bind_some, ↓reduceIte, eq_self, not_true_eq_false, not_false_eq_true, b2i_0, b2i_1, up_eq, up_ne, up_up, up_sort, up_self, fl_at, nI_s, q_51_24, q_51_26, q_51_29, q_51_31, q_51_32, q_51_35, q_51_36, q_51_38, q_51_39, q_51_42, q_51_45, q_51_46, q_51_47, q_51_48, q_51_49, q_51_52, q_51_53, q_51_55, q_51_56, q_51_59, q_51_60, q_51_63, q_51_64, q_51_65, q_51_68, q_51_69, q_51_72, q_51_74, q_51_75, q_51_76, q_51_79, q_51_80, q_51_83, q_51_84, q_51_85, q_51_88, q_51_89, q_51_90, q_51_93, q_51_94, q_51_95, q_51_98, q_51_99, q_51_102, q_51_104, q_51_105, q_51_107, q_51_109, q_51_111, q_51_114, q_51_115, q_51_116, q_51_119, q_51_122, q_51_123, zk_31, zk_32, zk_33, zk_34, zk_35, zk_37, zs_31_0, zr_31_0, zs_31_1, zr_31_1, zs_31_2, zr_31_2, zs_31_3, zr_31_3, hZ, f0, f1, f2, f3, f4, f5, h1, h2, h3, h4, ha, hN, hN2, e1, X0_canHear (N := N) (cl_31 hZ), X0_late (cl_31 hZ), Bool.true_eq_false]
              rfl
          · have h3' : ¬ nI (hn (I 32) at_) = nI c := fun q => h3 ((nI_eq (by omega) (by omega)).mp q)
            rw [if_neg h3]
            by_cases h4 : I 34 at_ = 3
            · simp (decide := true) only [gN1_int, gN1_ref, gN1_null, gN1_long, gTg8_8, gTg8_14, gTg9_9, gTg9_13, gTgA_8, gTgA_9, gTgA_10, gTgA_11, gTgA_13, gTgA_14, gB01_0, gB01_1, gB01_b, List.cons_append, List.nil_append, Option.toList_some, Option.toList_none, Option.bind_some, ↓reduceIte, eq_self, not_true_eq_false, not_false_eq_true, b2i_0, b2i_1, up_eq, up_ne, up_up, up_sort, up_self, fl_at, nI_s, q_51_24, q_51_26, q_51_29, q_51_31, q_51_32, q_51_35, q_51_36, q_51_38, q_51_39, q_51_42, q_51_45, q_51_46, q_51_47, q_51_48, q_51_49, q_51_52, q_51_53, q_51_55, q_51_56, q_51_59, q_51_60, q_51_63, q_51_64, q_51_65, q_51_68, q_51_69, q_51_72, q_51_74, q_51_75, q_51_76, q_51_79, q_51_80, q_51_83, q_51_84, q_51_85, q_51_88, q_51_89, q_51_90, q_51_93, q_51_94, q_51_95, q_51_98, q_51_99, q_51_102, q_51_104, q_51_105, q_51_107, q_51_109, q_51_111, q_51_114, q_51_115, q_51_116, q_51_119, q_51_122, q_51_123, zk_31, zk_32, zk_33, zk_34, zk_35, zk_37, zs_31_0, zr_31_0, zs_31_1, zr_31_1, zs_31_2, zr_31_2, zs_31_3, zr_31_3, hZ, f0, f1, f2, f3, f4, f5, h1, h2, h3', h4, ha, hN, hN2, e1, X0_canHear (N := N) (cl_31 hZ), X0_late (cl_31 hZ), Bool.true_eq_false]
              exact ih _ _ _ _ (by omega) e2
            · simp (decide := true) only [gN1_int, gN1_ref, gN1_null, gN1_long, gTg8_8, gTg8_14, gTg9_9, gTg9_13, gTgA_8, gTgA_9, gTgA_10, gTgA_11, gTgA_13, gTgA_14, gB01_0, gB01_1, gB01_b, List.cons_append, List.nil_append, Option.toList_some, Option.toList_none, Option.bind_some, ↓reduceIte, eq_self, not_true_eq_false, not_false_eq_true, b2i_0, b2i_1, up_eq, up_ne, up_up, up_sort, up_self, fl_at, nI_s, q_51_24, q_51_26, q_51_29, q_51_31, q_51_32, q_51_35, q_51_36, q_51_38, q_51_39, q_51_42, q_51_45, q_51_46, q_51_47, q_51_48, q_51_49, q_51_52, q_51_53, q_51_55, q_51_56, q_51_59, q_51_60, q_51_63, q_51_64, q_51_65, q_51_68, q_51_69, q_51_72, q_51_74, q_51_75, q_51_76, q_51_79, q_51_80, q_51_83, q_51_84, q_51_85, q_51_88, q_51_89, q_51_90, q_51_93, q_51_94, q_51_95, q_51_98, q_51_99, q_51_102, q_51_104, q_51_105, q_51_107, q_51_109, q_51_111, q_51_114, q_51_115, q_51_116, q_51_119, q_51_122, q_51_123, zk_31, zk_32, zk_33, zk_34, zk_35, zk_37, zs_31_0, zr_31_0, zs_31_1, zr_31_1, zs_31_2, zr_31_2, zs_31_3, zr_31_3, hZ, f0, f1, f2, f3, f4, f5, h1, h2, h3', h4, ha, hN, hN2, e1, X0_canHear (N := N) (cl_31 hZ), X0_late (cl_31 hZ), Bool.true_eq_false]
              exact ih _ _ _ _ (by omega) e2
        · have h2 : cH (I 32) (I 33) (I 34) w at_ = false := by simpa using h2
          have hgd : ¬ gd (I 32) (I 33) (I 34) w sl at_ = true := by simp [gd, h2]
          rw [if_neg hgd]
          simp (decide := true) only [gN1_int, gN1_ref, gN1_null, gN1_long, gTg8_8, gTg8_14, gTg9_9, gTg9_13, gTgA_8, gTgA_9, gTgA_10, gTgA_11, gTgA_13, gTgA_14, gB01_0, gB01_1, gB01_b, List.cons_append, List.nil_append, Option.toList_some, Option.toList_none, Option.bind_some, ↓reduceIte, eq_self, not_true_eq_false, not_false_eq_true, b2i_0, b2i_1, up_eq, up_ne, up_up, up_sort, up_self, fl_at, nI_s, q_51_24, q_51_26, q_51_29, q_51_31, q_51_32, q_51_35, q_51_36, q_51_38, q_51_39, q_51_42, q_51_45, q_51_46, q_51_47, q_51_48, q_51_49, q_51_52, q_51_53, q_51_55, q_51_56, q_51_59, q_51_60, q_51_63, q_51_64, q_51_65, q_51_68, q_51_69, q_51_72, q_51_74, q_51_75, q_51_76, q_51_79, q_51_80, q_51_83, q_51_84, q_51_85, q_51_88, q_51_89, q_51_90, q_51_93, q_51_94, q_51_95, q_51_98, q_51_99, q_51_102, q_51_104, q_51_105, q_51_107, q_51_109, q_51_111, q_51_114, q_51_115, q_51_116, q_51_119, q_51_122, q_51_123, zk_31, zk_32, zk_33, zk_34, zk_35, zk_37, zs_31_0, zr_31_0, zs_31_1, zr_31_1, zs_31_2, zr_31_2, zs_31_3, zr_31_3, hZ, f0, f1, f2, f3, f4, f5, h1, h2, ha, hN, hN2, X0_canHear (N := N) (cl_31 hZ)]
          rfl
  simp (decide := true) only [gN1_int, gN1_ref, gN1_null, gN1_long, gTg8_8, gTg8_14, gTg9_9, gTg9_13, gTgA_8, gTgA_9, gTgA_10, gTgA_11, gTgA_13, gTgA_14, gB01_0, gB01_1, gB01_b, List.cons_append, List.nil_append, Option.toList_some, Option.toList_none, Option.bind_some, ↓reduceIte, eq_self, not_true_eq_false, not_false_eq_true, b2i_0, b2i_1, up_eq, up_ne, up_up, up_sort, up_self, fl_at, nI_s, q_51_0, q_51_1, q_51_2, q_51_5, q_51_6, q_51_7, q_51_10, q_51_11, q_51_12, q_51_15, q_51_17, q_51_19, q_51_20, zk_31, zk_32, zk_33, zk_34, zk_35, zk_37, zs_31_0, zr_31_0, zs_31_1, zr_31_1, zs_31_2, zr_31_2, zs_31_3, zr_31_3, hZ]
  exact key 10 g 0 0 0 (Nat.le_refl _) hg
/-- nothing but the two ways has changed -/
def Jw (I I' : gI) : Prop := ∀ a, a ≠ 36 → a ≠ 37 → I' a = I a
theorem Jw.refl : Jw I I := fun _ _ _ => rfl
theorem Jw.trans {I1 I2 I3 : gI} (h1 : Jw I1 I2) (h2 : Jw I2 I3) : Jw I1 I3 := fun a q1 q2 => (h2 a q1 q2).trans (h1 a q1 q2)
theorem Jw.u6 {f : Nat → Int32} : Jw I (va_up I 36 f) := fun a h _ => up_ne h
theorem Jw.u7 {f : Nat → Int32} : Jw I (va_up I 37 f) := fun a _ h => up_ne h
/-- what is foretold of: the house's copy, weather, sleeper -/
def FH (I : gI) (N : Nat) (w sl : Int32) : Prop := I 31 4 = nI N ∧ N ≤ 10 ∧ Hw (I 32) N ∧ I 30 3 = w ∧ I 30 4 = sl
theorem FH.of {I' : gI} {N : Nat} {w sl : Int32} (h : FH I N w sl) (hj : Jw I I') : FH I' N w sl := by
  obtain ⟨h1, h2, h3, h4, h5⟩ := h
  unfold FH
  rw [hj 31 (by decide) (by decide), hj 32 (by decide) (by decide), hj 30 (by decide) (by decide)]
  exact ⟨h1, h2, h3, h4, h5⟩
theorem X1_roundMinutes (hZ : St Z) {w sl : Int32} {N c : Nat} (hF : FH I N w sl) (hc : c < N) : ∃ I', g_at 11 0 [.ref 30, .int (nI c), .null] [] Z I J = some (some (.int (rdF (I 32) (I 33) (I 34) (I 35) w sl N c)), Z, I', J) ∧ Jw I I' ∧ I' 36 = I 36 := by
  obtain ⟨h1, h2, h3, h4, h5⟩ := hF
  have ht := X5_trace_37 (J := J) hZ (w := w) (sl := sl) h1 h2 h3 hc hc
  have hr := rd_tr (s := I 33) (k := I 34) (d := I 35) (w := w) (sl := sl) h3 h2 hc
  generalize trF (I 32) (I 33) (I 34) (I 35) w sl c 10 c 0 0 0 = r at ht hr
  refine ⟨va_up I 37 (va_up (va_up (va_up (I 37) 0 r.2.1) 1 r.2.2.1) 2 r.2.2.2), ?_, Jw.u7, up_ne (by decide)⟩
  rw [← hr]
  obtain ⟨b, mi, dd, mo⟩ := r
  simp only at ht ⊢
  cases b
  · simp (decide := true) only [gN1_int, gN1_ref, gN1_null, gN1_long, gTg8_8, gTg8_14, gTg9_9, gTg9_13, gTgA_8, gTgA_9, gTgA_10, gTgA_11, gTgA_13, gTgA_14, gB01_0, gB01_1, gB01_b, List.cons_append, List.nil_append, Option.toList_some, Option.toList_none, Option.bind_some, ↓reduceIte, eq_self, not_true_eq_false, not_false_eq_true, b2i_0, b2i_1, up_eq, up_ne, up_up, up_sort, up_self, fl_at, nI_s, q_11_0, q_11_1, q_11_4, q_11_5, q_11_8, q_11_9, q_11_12, q_11_13, q_11_16, q_11_17, q_11_18, q_11_21, q_11_22, q_11_23, q_11_26, q_11_27, q_11_30, q_11_33, q_11_36, q_11_37, q_11_40, q_11_43, q_11_46, q_11_47, zk_30, zk_31, zk_36, zk_37, zs_31_0, zr_31_0, zs_31_1, zr_31_1, zs_31_2, zr_31_2, zs_31_3, zr_31_3, zs_30_0, zr_30_0, zs_30_1, zr_30_1, zs_30_2, zr_30_2, hZ, h4, h5, ht, Bool.false_eq_true, false_and]
  · by_cases hd : dd = 0
    · simp (decide := true) only [gN1_int, gN1_ref, gN1_null, gN1_long, gTg8_8, gTg8_14, gTg9_9, gTg9_13, gTgA_8, gTgA_9, gTgA_10, gTgA_11, gTgA_13, gTgA_14, gB01_0, gB01_1, gB01_b, List.cons_append, List.nil_append, Option.toList_some, Option.toList_none, Option.bind_some, ↓reduceIte, eq_self, not_true_eq_false, not_false_eq_true, b2i_0, b2i_1, up_eq, up_ne, up_up, up_sort, up_self, fl_at, nI_s, q_11_0, q_11_1, q_11_4, q_11_5, q_11_8, q_11_9, q_11_12, q_11_13, q_11_16, q_11_17, q_11_18, q_11_21, q_11_22, q_11_23, q_11_26, q_11_27, q_11_30, q_11_33, q_11_36, q_11_37, q_11_40, q_11_43, q_11_46, q_11_47, zk_30, zk_31, zk_36, zk_37, zs_31_0, zr_31_0, zs_31_1, zr_31_1, zs_31_2, zr_31_2, zs_31_3, zr_31_3, zs_30_0, zr_30_0, zs_30_1, zr_30_1, zs_30_2, zr_30_2, hZ, h4, h5, ht, hd, Bool.true_eq_false, true_and]
    · simp (decide := true) only [gN1_int, gN1_ref, gN1_null, gN1_long, gTg8_8, gTg8_14, gTg9_9, gTg9_13, gTgA_8, gTgA_9, gTgA_10, gTgA_11, gTgA_13, gTgA_14, gB01_0, gB01_1, gB01_b, List.cons_append, List.nil_append, Option.toList_some, Option.toList_none, Option.bind_some, ↓reduceIte, eq_self, not_true_eq_false, not_false_eq_true, b2i_0, b2i_1, up_eq, up_ne, up_up, up_sort, up_self, fl_at, nI_s, q_11_0, q_11_1, q_11_4, q_11_5, q_11_8, q_11_9, q_11_12, q_11_13, q_11_16, q_11_17, q_11_18, q_11_21, q_11_22, q_11_23, q_11_26, q_11_27, q_11_30, q_11_33, q_11_36, q_11_37, q_11_40, q_11_43, q_11_46, q_11_47, zk_30, zk_31, zk_36, zk_37, zs_31_0, zr_31_0, zs_31_1, zr_31_1, zs_31_2, zr_31_2, zs_31_3, zr_31_3, zs_30_0, zr_30_0, zs_30_1, zr_30_1, zs_30_2, zr_30_2, hZ, h4, h5, ht, hd, Bool.true_eq_false, true_and]
theorem X1_minutesTo (hZ : St Z) {w sl : Int32} {N c g : Nat} (hF : FH I N w sl) (hc : c < N) (hg : g < N) : ∃ I', g_at 10 0 [.ref 30, .int (nI c), .int (nI g), .null] [] Z I J = some (some (.int (mtF (I 32) (I 33) (I 34) (I 35) w sl N c g)), Z, I', J) ∧ Jw I I' ∧ (g ≠ c → I' 36 2 = (trF (I 32) (I 33) (I 34) (I 35) w sl c 10 g 0 0 0).2.2.2) := by
  have hF0 := hF
  obtain ⟨h1, h2, h3, h4, h5⟩ := hF
  by_cases e : g = c
  · subst e
    refine ⟨I, ?_, Jw.refl, fun h => absurd rfl h⟩
    rw [mt_c]
    simp (decide := true) only [gN1_int, gN1_ref, gN1_null, gN1_long, gTg8_8, gTg8_14, gTg9_9, gTg9_13, gTgA_8, gTgA_9, gTgA_10, gTgA_11, gTgA_13, gTgA_14, gB01_0, gB01_1, gB01_b, List.cons_append, List.nil_append, Option.toList_some, Option.toList_none, Option.bind_some, ↓reduceIte, eq_self, not_true_eq_false, not_false_eq_true, b2i_0, b2i_1, up_eq, up_ne, up_up, up_sort, up_self, fl_at, nI_s, q_10_0, q_10_1, q_10_2, q_10_5, q_10_6, q_10_7, q_10_8, q_10_11, q_10_12, q_10_15, q_10_16, q_10_19, q_10_20, q_10_23, q_10_24, q_10_25, q_10_28, q_10_31, q_10_32, q_10_33, q_10_34, q_10_37, q_10_40, q_10_43, q_10_44, q_10_47, q_10_50, q_10_51, q_10_52, q_10_53, q_10_56, q_10_57, q_10_58, q_10_59, q_10_62, q_10_63, q_10_66, q_10_67, q_10_70, q_10_73, q_10_74, q_10_75, q_10_78, q_10_81, q_10_82, q_10_83, q_10_84, q_10_85, q_10_86, q_10_87, ne_eq]
  · have e' : ¬ nI g = nI c := fun q => e ((nI_eq (by omega) (by omega)).mp q)
    have ht := X5_trace_36 (J := J) hZ (w := w) (sl := sl) h1 h2 h3 hc hg
    have hr := mt_tr (s := I 33) (k := I 34) (d := I 35) (w := w) (sl := sl) h3 h2 hc hg e
    rw [← hr]
    generalize trF (I 32) (I 33) (I 34) (I 35) w sl c 10 g 0 0 0 = r at ht
    obtain ⟨b, mi, dd, mo⟩ := r
    simp only at ht ⊢
    have hF2 : FH (va_up I 36 (va_up (va_up (va_up (I 36) 0 mi) 1 dd) 2 mo)) N w sl := hF0.of Jw.u6
    cases b
    · refine ⟨va_up I 36 (va_up (va_up (va_up (I 36) 0 mi) 1 dd) 2 mo), ?_, Jw.u6, fun _ => ?_⟩
      · simp (decide := true) only [gN1_int, gN1_ref, gN1_null, gN1_long, gTg8_8, gTg8_14, gTg9_9, gTg9_13, gTgA_8, gTgA_9, gTgA_10, gTgA_11, gTgA_13, gTgA_14, gB01_0, gB01_1, gB01_b, List.cons_append, List.nil_append, Option.toList_some, Option.toList_none, Option.bind_some, ↓reduceIte, eq_self, not_true_eq_false, not_false_eq_true, b2i_0, b2i_1, up_eq, up_ne, up_up, up_sort, up_self, fl_at, nI_s, q_10_0, q_10_1, q_10_2, q_10_5, q_10_6, q_10_7, q_10_8, q_10_11, q_10_12, q_10_15, q_10_16, q_10_19, q_10_20, q_10_23, q_10_24, q_10_25, q_10_28, q_10_31, q_10_32, q_10_33, q_10_34, q_10_37, q_10_40, q_10_43, q_10_44, q_10_47, q_10_50, q_10_51, q_10_52, q_10_53, q_10_56, q_10_57, q_10_58, q_10_59, q_10_62, q_10_63, q_10_66, q_10_67, q_10_70, q_10_73, q_10_74, q_10_75, q_10_78, q_10_81, q_10_82, q_10_83, q_10_84, q_10_85, q_10_86, q_10_87, zk_30, zk_31, zk_36, zk_37, zs_31_0, zr_31_0, zs_31_1, zr_31_1, zs_31_2, zr_31_2, zs_31_3, zr_31_3, zs_30_0, zr_30_0, zs_30_1, zr_30_1, zs_30_2, zr_30_2, hZ, e', h4, h5, ht, Bool.false_eq_true]
      · simp (decide := true) only [up_eq]
    · by_cases hd : dd = 0
      · refine ⟨va_up I 36 (va_up (va_up (va_up (I 36) 0 mi) 1 dd) 2 mo), ?_, Jw.u6, fun _ => ?_⟩
        · simp (decide := true) only [gN1_int, gN1_ref, gN1_null, gN1_long, gTg8_8, gTg8_14, gTg9_9, gTg9_13, gTgA_8, gTgA_9, gTgA_10, gTgA_11, gTgA_13, gTgA_14, gB01_0, gB01_1, gB01_b, List.cons_append, List.nil_append, Option.toList_some, Option.toList_none, Option.bind_some, ↓reduceIte, eq_self, not_true_eq_false, not_false_eq_true, b2i_0, b2i_1, up_eq, up_ne, up_up, up_sort, up_self, fl_at, nI_s, q_10_0, q_10_1, q_10_2, q_10_5, q_10_6, q_10_7, q_10_8, q_10_11, q_10_12, q_10_15, q_10_16, q_10_19, q_10_20, q_10_23, q_10_24, q_10_25, q_10_28, q_10_31, q_10_32, q_10_33, q_10_34, q_10_37, q_10_40, q_10_43, q_10_44, q_10_47, q_10_50, q_10_51, q_10_52, q_10_53, q_10_56, q_10_57, q_10_58, q_10_59, q_10_62, q_10_63, q_10_66, q_10_67, q_10_70, q_10_73, q_10_74, q_10_75, q_10_78, q_10_81, q_10_82, q_10_83, q_10_84, q_10_85, q_10_86, q_10_87, zk_30, zk_31, zk_36, zk_37, zs_31_0, zr_31_0, zs_31_1, zr_31_1, zs_31_2, zr_31_2, zs_31_3, zr_31_3, zs_30_0, zr_30_0, zs_30_1, zr_30_1, zs_30_2, zr_30_2, hZ, e', h4, h5, ht, hd, Bool.true_eq_false]
        · simp (decide := true) only [up_eq]
      · obtain ⟨I2, r1, r2, r3⟩ := X1_roundMinutes (J := J) hZ hF2 hc
        simp (decide := true) only [up_ne] at r1
        rw [up_eq] at r3
        refine ⟨I2, ?_, Jw.u6.trans r2, fun _ => by rw [r3]; simp (decide := true) only [up_eq]⟩
        have g0 : I2 36 0 = mi := by rw [r3]; simp (decide := true) only [up_eq, up_ne]
        have g1 : I2 36 1 = dd := by rw [r3]; simp (decide := true) only [up_eq, up_ne]
        by_cases hq : rdF (I 32) (I 33) (I 34) (I 35) w sl N c = -1
        · simp (decide := true) only [gN1_int, gN1_ref, gN1_null, gN1_long, gTg8_8, gTg8_14, gTg9_9, gTg9_13, gTgA_8, gTgA_9, gTgA_10, gTgA_11, gTgA_13, gTgA_14, gB01_0, gB01_1, gB01_b, List.cons_append, List.nil_append, Option.toList_some, Option.toList_none, Option.bind_some, ↓reduceIte, eq_self, not_true_eq_false, not_false_eq_true, b2i_0, b2i_1, up_eq, up_ne, up_up, up_sort, up_self, fl_at, nI_s, q_10_0, q_10_1, q_10_2, q_10_5, q_10_6, q_10_7, q_10_8, q_10_11, q_10_12, q_10_15, q_10_16, q_10_19, q_10_20, q_10_23, q_10_24, q_10_25, q_10_28, q_10_31, q_10_32, q_10_33, q_10_34, q_10_37, q_10_40, q_10_43, q_10_44, q_10_47, q_10_50, q_10_51, q_10_52, q_10_53, q_10_56, q_10_57, q_10_58, q_10_59, q_10_62, q_10_63, q_10_66, q_10_67, q_10_70, q_10_73, q_10_74, q_10_75, q_10_78, q_10_81, q_10_82, q_10_83, q_10_84, q_10_85, q_10_86, q_10_87, zk_30, zk_31, zk_36, zk_37, zs_31_0, zr_31_0, zs_31_1, zr_31_1, zs_31_2, zr_31_2, zs_31_3, zr_31_3, zs_30_0, zr_30_0, zs_30_1, zr_30_1, zs_30_2, zr_30_2, hZ, e', h4, h5, ht, hd, r1, hq, Bool.true_eq_false]
        · simp (decide := true) only [gN1_int, gN1_ref, gN1_null, gN1_long, gTg8_8, gTg8_14, gTg9_9, gTg9_13, gTgA_8, gTgA_9, gTgA_10, gTgA_11, gTgA_13, gTgA_14, gB01_0, gB01_1, gB01_b, List.cons_append, List.nil_append, Option.toList_some, Option.toList_none, Option.bind_some, ↓reduceIte, eq_self, not_true_eq_false, not_false_eq_true, b2i_0, b2i_1, up_eq, up_ne, up_up, up_sort, up_self, fl_at, nI_s, q_10_0, q_10_1, q_10_2, q_10_5, q_10_6, q_10_7, q_10_8, q_10_11, q_10_12, q_10_15, q_10_16, q_10_19, q_10_20, q_10_23, q_10_24, q_10_25, q_10_28, q_10_31, q_10_32, q_10_33, q_10_34, q_10_37, q_10_40, q_10_43, q_10_44, q_10_47, q_10_50, q_10_51, q_10_52, q_10_53, q_10_56, q_10_57, q_10_58, q_10_59, q_10_62, q_10_63, q_10_66, q_10_67, q_10_70, q_10_73, q_10_74, q_10_75, q_10_78, q_10_81, q_10_82, q_10_83, q_10_84, q_10_85, q_10_86, q_10_87, zk_30, zk_31, zk_36, zk_37, zs_31_0, zr_31_0, zs_31_1, zr_31_1, zs_31_2, zr_31_2, zs_31_3, zr_31_3, zs_30_0, zr_30_0, zs_30_1, zr_30_1, zs_30_2, zr_30_2, hZ, e', h4, h5, ht, hd, r1, hq, g0, g1, Bool.true_eq_false]
/-- loops that leave traces of no account -/
theorem loop_inv {α β : Type} (P : Nat → β → α) (Inv : β → Prop) {n : Nat} (h : ∀ k, k < n → ∀ b, Inv b → ∃ b', Inv b' ∧ P k b = P (k + 1) b') (b : β) (hb : Inv b) : ∃ b', Inv b' ∧ P 0 b = P n b' := by
  have : ∀ k, k ≤ n → ∃ b', Inv b' ∧ P 0 b = P k b' := by
    intro k
    induction k with
    | zero => intro _; exact ⟨b, hb, rfl⟩
    | succ k ih =>
      intro hk
      obtain ⟨b1, h1, e1⟩ := ih (by omega)
      obtain ⟨b2, h2, e2⟩ := h k (by omega) b1 h1
      exact ⟨b2, h2, e1.trans e2⟩
  exact this n (Nat.le_refl n)
/-- WHO -/
def whoP (h s k d : Nat → Int32) (w sl : Int32) (N c : Nat) : Nat → Bool := fun g => !decide (mtF h s k d w sl N c g = -1)
theorem X1_strikers (hZ : St Z) {w sl : Int32} {N c : Nat} (hF : FH I N w sl) (hc : c < N) : ∃ I', g_at 12 0 [.ref 30, .int (nI c), .null, .null] [] Z I J = some (some (.int (bitsOf (whoP (I 32) (I 33) (I 34) (I 35) w sl N c) N)), Z, I', J) ∧ Jw I I' := by
  obtain ⟨I', hj, e⟩ := loop_inv (fun i I' => g_at 12 4 [.ref 30, .int (nI c), .int (bitsOf (whoP (I 32) (I 33) (I 34) (I 35) w sl N c) i), .int (nI i)] [] Z I' J) (Jw I) (n := N) (fun i hi I1 hj => by
    obtain ⟨I2, r1, r2, -⟩ := X1_minutesTo (J := J) hZ (hF.of hj) hc hi
    rw [hj 32 (by decide) (by decide), hj 33 (by decide) (by decide), hj 34 (by decide) (by decide), hj 35 (by decide) (by decide)] at r1
    refine ⟨I2, hj.trans r2, ?_⟩
    have f3 : ¬ nI N ≤ nI i := nI_ge hi (by have := hF.2.1; omega)
    have hn : I1 31 4 = nI N := (hF.of hj).1
    try dsimp only
    rw [q_12_4]
    by_cases hq : mtF (I 32) (I 33) (I 34) (I 35) w sl N c i = -1
    · simp (decide := true) only [gN1_int, gN1_ref, gN1_null, gN1_long, gTg8_8, gTg8_14, gTg9_9, gTg9_13, gTgA_8, gTgA_9, gTgA_10, gTgA_11, gTgA_13, gTgA_14, gB01_0, gB01_1, gB01_b, List.cons_append, List.nil_append, Option.toList_some, Option.toList_none, Option.bind_some, ↓reduceIte, eq_self, not_true_eq_false, not_false_eq_true, b2i_0, b2i_1, up_eq, up_ne, up_up, up_sort, up_self, fl_at, nI_s, q_12_0, q_12_1, q_12_2, q_12_3, q_12_5, q_12_6, q_12_9, q_12_12, q_12_15, q_12_16, q_12_17, q_12_18, q_12_21, q_12_22, q_12_25, q_12_26, q_12_27, q_12_28, q_12_29, q_12_30, q_12_31, q_12_34, q_12_37, q_12_38, zk_30, zk_31, zs_31_0, zr_31_0, zs_31_1, zr_31_1, zs_31_2, zr_31_2, zs_31_3, zr_31_3, zs_30_0, zr_30_0, zs_30_1, zr_30_1, zs_30_2, zr_30_2, hZ, f3, hn, r1, hq, bitsOf_s (k := i), whoP, decide_true, Bool.not_true, Bool.false_eq_true]
    · simp (decide := true) only [gN1_int, gN1_ref, gN1_null, gN1_long, gTg8_8, gTg8_14, gTg9_9, gTg9_13, gTgA_8, gTgA_9, gTgA_10, gTgA_11, gTgA_13, gTgA_14, gB01_0, gB01_1, gB01_b, List.cons_append, List.nil_append, Option.toList_some, Option.toList_none, Option.bind_some, ↓reduceIte, eq_self, not_true_eq_false, not_false_eq_true, b2i_0, b2i_1, up_eq, up_ne, up_up, up_sort, up_self, fl_at, nI_s, q_12_0, q_12_1, q_12_2, q_12_3, q_12_5, q_12_6, q_12_9, q_12_12, q_12_15, q_12_16, q_12_17, q_12_18, q_12_21, q_12_22, q_12_25, q_12_26, q_12_27, q_12_28, q_12_29, q_12_30, q_12_31, q_12_34, q_12_37, q_12_38, zk_30, zk_31, zs_31_0, zr_31_0, zs_31_1, zr_31_1, zs_31_2, zr_31_2, zs_31_3, zr_31_3, zs_30_0, zr_30_0, zs_30_1, zr_30_1, zs_30_2, zr_30_2, hZ, f3, hn, r1, hq, bitsOf_s (k := i), whoP, decide_false, Bool.not_false]) I Jw.refl
  refine ⟨I', ?_, hj⟩
  simp only [bitsOf_0, nI_0] at e
  have hn : I' 31 4 = nI N := (hF.of hj).1
  simp (decide := true) only [gN1_int, gN1_ref, gN1_null, gN1_long, gTg8_8, gTg8_14, gTg9_9, gTg9_13, gTgA_8, gTgA_9, gTgA_10, gTgA_11, gTgA_13, gTgA_14, gB01_0, gB01_1, gB01_b, List.cons_append, List.nil_append, Option.toList_some, Option.toList_none, Option.bind_some, ↓reduceIte, eq_self, not_true_eq_false, not_false_eq_true, b2i_0, b2i_1, up_eq, up_ne, up_up, up_sort, up_self, fl_at, nI_s, q_12_0, q_12_1, q_12_2, q_12_3]
  rw [e, q_12_4]
  simp (decide := true) only [gN1_int, gN1_ref, gN1_null, gN1_long, gTg8_8, gTg8_14, gTg9_9, gTg9_13, gTgA_8, gTgA_9, gTgA_10, gTgA_11, gTgA_13, gTgA_14, gB01_0, gB01_1, gB01_b, List.cons_append, List.nil_append, Option.toList_some, Option.toList_none, Option.bind_some, ↓reduceIte, eq_self, not_true_eq_false, not_false_eq_true, b2i_0, b2i_1, up_eq, up_ne, up_up, up_sort, up_self, fl_at, nI_s, q_12_0, q_12_1, q_12_2, q_12_3, q_12_5, q_12_6, q_12_9, q_12_12, q_12_15, q_12_16, q_12_17, q_12_18, q_12_21, q_12_22, q_12_25, q_12_26, q_12_27, q_12_28, q_12_29, q_12_30, q_12_31, q_12_34, q_12_37, q_12_38, zk_30, zk_31, zs_31_0, zr_31_0, zs_31_1, zr_31_1, zs_31_2, zr_31_2, zs_31_3, zr_31_3, zs_30_0, zr_30_0, zs_30_1, zr_30_1, zs_30_2, zr_30_2, hZ, hn, Int32.le_refl]
/-- ENDS, where it ends -/
def lastF (h s k d : Nat → Int32) (w sl : Int32) (N c : Nat) : Nat → Int32
  | 0 => 0
  | i + 1 => if lastF h s k d w sl N c i < mtF h s k d w sl N c i then mtF h s k d w sl N c i else lastF h s k d w sl N c i
theorem X1_lastMinute (hZ : St Z) {w sl : Int32} {N c : Nat} (hF : FH I N w sl) (hc : c < N) : ∃ I', g_at 13 0 [.ref 30, .int (nI c), .null, .null] [] Z I J = some (some (.int (if rdF (I 32) (I 33) (I 34) (I 35) w sl N c = -1 then lastF (I 32) (I 33) (I 34) (I 35) w sl N c N else -1)), Z, I', J) ∧ Jw I I' := by
  obtain ⟨I0, r1, r2, -⟩ := X1_roundMinutes (J := J) hZ hF hc
  by_cases hq : rdF (I 32) (I 33) (I 34) (I 35) w sl N c = -1
  · obtain ⟨I', hj, e⟩ := loop_inv (fun i I' => g_at 13 15 [.ref 30, .int (nI c), .int (lastF (I 32) (I 33) (I 34) (I 35) w sl N c i), .int (nI i)] [] Z I' J) (Jw I) (n := N) (fun i hi I1 hj => by
      obtain ⟨I2, r1, r2, -⟩ := X1_minutesTo (J := J) hZ (hF.of hj) hc hi
      rw [hj 32 (by decide) (by decide), hj 33 (by decide) (by decide), hj 34 (by decide) (by decide), hj 35 (by decide) (by decide)] at r1
      refine ⟨I2, hj.trans r2, ?_⟩
      have f3 : ¬ nI N ≤ nI i := nI_ge hi (by have := hF.2.1; omega)
      have hn : I1 31 4 = nI N := (hF.of hj).1
      try dsimp only
      rw [q_13_15]
      simp (decide := true) only [gN1_int, gN1_ref, gN1_null, gN1_long, gTg8_8, gTg8_14, gTg9_9, gTg9_13, gTgA_8, gTgA_9, gTgA_10, gTgA_11, gTgA_13, gTgA_14, gB01_0, gB01_1, gB01_b, List.cons_append, List.nil_append, Option.toList_some, Option.toList_none, Option.bind_some, ↓reduceIte, eq_self, not_true_eq_false, not_false_eq_true, b2i_0, b2i_1, up_eq, up_ne, up_up, up_sort, up_self, fl_at, nI_s, q_13_0, q_13_1, q_13_2, q_13_5, q_13_6, q_13_9, q_13_10, q_13_11, q_13_12, q_13_13, q_13_14, q_13_16, q_13_17, q_13_20, q_13_23, q_13_26, q_13_27, q_13_28, q_13_29, q_13_30, q_13_33, q_13_36, q_13_37, q_13_40, q_13_43, q_13_44, zk_30, zk_31, zs_31_0, zr_31_0, zs_31_1, zr_31_1, zs_31_2, zr_31_2, zs_31_3, zr_31_3, zs_30_0, zr_30_0, zs_30_1, zr_30_1, zs_30_2, zr_30_2, hZ, f3, hn, r1, lastF]) I0 r2
    refine ⟨I', ?_, hj⟩
    simp only [lastF, nI_0] at e
    have hn : I' 31 4 = nI N := (hF.of hj).1
    simp (decide := true) only [gN1_int, gN1_ref, gN1_null, gN1_long, gTg8_8, gTg8_14, gTg9_9, gTg9_13, gTgA_8, gTgA_9, gTgA_10, gTgA_11, gTgA_13, gTgA_14, gB01_0, gB01_1, gB01_b, List.cons_append, List.nil_append, Option.toList_some, Option.toList_none, Option.bind_some, ↓reduceIte, eq_self, not_true_eq_false, not_false_eq_true, b2i_0, b2i_1, up_eq, up_ne, up_up, up_sort, up_self, fl_at, nI_s, q_13_0, q_13_1, q_13_2, q_13_5, q_13_6, q_13_9, q_13_10, q_13_11, q_13_12, q_13_13, q_13_14, zk_30, zs_30_0, zr_30_0, zs_30_1, zr_30_1, zs_30_2, zr_30_2, hZ, r1, hq]
    rw [e, q_13_15]
    simp (decide := true) only [gN1_int, gN1_ref, gN1_null, gN1_long, gTg8_8, gTg8_14, gTg9_9, gTg9_13, gTgA_8, gTgA_9, gTgA_10, gTgA_11, gTgA_13, gTgA_14, gB01_0, gB01_1, gB01_b, List.cons_append, List.nil_append, Option.toList_some, Option.toList_none, Option.bind_some, ↓reduceIte, eq_self, not_true_eq_false, not_false_eq_true, b2i_0, b2i_1, up_eq, up_ne, up_up, up_sort, up_self, fl_at, nI_s, q_13_0, q_13_1, q_13_2, q_13_5, q_13_6, q_13_9, q_13_10, q_13_11, q_13_12, q_13_13, q_13_14, q_13_16, q_13_17, q_13_20, q_13_23, q_13_26, q_13_27, q_13_28, q_13_29, q_13_30, q_13_33, q_13_36, q_13_37, q_13_40, q_13_43, q_13_44, zk_30, zk_31, zs_31_0, zr_31_0, zs_31_1, zr_31_1, zs_31_2, zr_31_2, zs_31_3, zr_31_3, zs_30_0, zr_30_0, zs_30_1, zr_30_1, zs_30_2, zr_30_2, hZ, hn, Int32.le_refl]
  · refine ⟨I0, ?_, r2⟩
    simp (decide := true) only [gN1_int, gN1_ref, gN1_null, gN1_long, gTg8_8, gTg8_14, gTg9_9, gTg9_13, gTgA_8, gTgA_9, gTgA_10, gTgA_11, gTgA_13, gTgA_14, gB01_0, gB01_1, gB01_b, List.cons_append, List.nil_append, Option.toList_some, Option.toList_none, Option.bind_some, ↓reduceIte, eq_self, not_true_eq_false, not_false_eq_true, b2i_0, b2i_1, up_eq, up_ne, up_up, up_sort, up_self, fl_at, nI_s, q_13_0, q_13_1, q_13_2, q_13_5, q_13_6, q_13_9, q_13_10, q_13_11, q_13_12, q_13_13, q_13_14, zk_30, zs_30_0, zr_30_0, zs_30_1, zr_30_1, zs_30_2, zr_30_2, hZ, r1, hq]
/-- APART -/
def apF (h s k d : Nat → Int32) (w sl : Int32) (N c a b : Nat) : Int32 := if mtF h s k d w sl N c a = -1 ∨ mtF h s k d w sl N c b = -1 then -1 else if 0 ≤ mtF h s k d w sl N c a - mtF h s k d w sl N c b then mtF h s k d w sl N c a - mtF h s k d w sl N c b else 0 - (mtF h s k d w sl N c a - mtF h s k d w sl N c b)
theorem X1_minutesBetween (hZ : St Z) {w sl : Int32} {N c a b : Nat} (hF : FH I N w sl) (hc : c < N) (ha : a < N) (hb : b < N) : ∃ I', g_at 16 0 [.ref 30, .int (nI c), .int (nI a), .int (nI b), .null, .null] [] Z I J = some (some (.int (apF (I 32) (I 33) (I 34) (I 35) w sl N c a b)), Z, I', J) ∧ Jw I I' := by
  obtain ⟨I1, r1, r2, -⟩ := X1_minutesTo (J := J) hZ hF hc ha
  obtain ⟨I2, s1, s2, -⟩ := X1_minutesTo (J := J) hZ (hF.of r2) hc hb
  rw [r2 32 (by decide) (by decide), r2 33 (by decide) (by decide), r2 34 (by decide) (by decide), r2 35 (by decide) (by decide)] at s1
  refine ⟨I2, ?_, r2.trans s2⟩
  unfold apF
  by_cases h1 : mtF (I 32) (I 33) (I 34) (I 35) w sl N c a = -1
  · simp (decide := true) only [gN1_int, gN1_ref, gN1_null, gN1_long, gTg8_8, gTg8_14, gTg9_9, gTg9_13, gTgA_8, gTgA_9, gTgA_10, gTgA_11, gTgA_13, gTgA_14, gB01_0, gB01_1, gB01_b, List.cons_append, List.nil_append, Option.toList_some, Option.toList_none, Option.bind_some, ↓reduceIte, eq_self, not_true_eq_false, not_false_eq_true, b2i_0, b2i_1, up_eq, up_ne, up_up, up_sort, up_self, fl_at, nI_s, q_16_0, q_16_1, q_16_2, q_16_3, q_16_6, q_16_8, q_16_9, q_16_10, q_16_11, q_16_14, q_16_16, q_16_18, q_16_19, q_16_22, q_16_24, q_16_25, q_16_28, q_16_29, q_16_32, q_16_34, q_16_36, q_16_37, q_16_40, zk_30, zs_30_0, zr_30_0, zs_30_1, zr_30_1, zs_30_2, zr_30_2, hZ, r1, s1, h1, true_or]
  · by_cases h2 : mtF (I 32) (I 33) (I 34) (I 35) w sl N c b = -1
    · simp (decide := true) only [gN1_int, gN1_ref, gN1_null, gN1_long, gTg8_8, gTg8_14, gTg9_9, gTg9_13, gTgA_8, gTgA_9, gTgA_10, gTgA_11, gTgA_13, gTgA_14, gB01_0, gB01_1, gB01_b, List.cons_append, List.nil_append, Option.toList_some, Option.toList_none, Option.bind_some, ↓reduceIte, eq_self, not_true_eq_false, not_false_eq_true, b2i_0, b2i_1, up_eq, up_ne, up_up, up_sort, up_self, fl_at, nI_s, q_16_0, q_16_1, q_16_2, q_16_3, q_16_6, q_16_8, q_16_9, q_16_10, q_16_11, q_16_14, q_16_16, q_16_18, q_16_19, q_16_22, q_16_24, q_16_25, q_16_28, q_16_29, q_16_32, q_16_34, q_16_36, q_16_37, q_16_40, zk_30, zs_30_0, zr_30_0, zs_30_1, zr_30_1, zs_30_2, zr_30_2, hZ, r1, s1, h1, h2, or_true]
    · simp (decide := true) only [gN1_int, gN1_ref, gN1_null, gN1_long, gTg8_8, gTg8_14, gTg9_9, gTg9_13, gTgA_8, gTgA_9, gTgA_10, gTgA_11, gTgA_13, gTgA_14, gB01_0, gB01_1, gB01_b, List.cons_append, List.nil_append, Option.toList_some, Option.toList_none, Option.bind_some, ↓reduceIte, eq_self, not_true_eq_false, not_false_eq_true, b2i_0, b2i_1, up_eq, up_ne, up_up, up_sort, up_self, fl_at, nI_s, q_16_0, q_16_1, q_16_2, q_16_3, q_16_6, q_16_8, q_16_9, q_16_10, q_16_11, q_16_14, q_16_16, q_16_18, q_16_19, q_16_22, q_16_24, q_16_25, q_16_28, q_16_29, q_16_32, q_16_34, q_16_36, q_16_37, q_16_40, zk_30, zs_30_0, zr_30_0, zs_30_1, zr_30_1, zs_30_2, zr_30_2, hZ, r1, s1, h1, h2, or_self]
end
