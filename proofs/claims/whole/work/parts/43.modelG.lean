/-! the reference's OVER -/
section
variable {Z : gZ} {I : gI} {J : gJ} {N : Nat} {w sl : Int32}
theorem cnt_ext {p : Nat → Bool} (m : Nat) (hm : N ≤ m) : cntB (fun j => decide (j < N) && p j) m = cntB p N := by
  induction m with
  | zero => have e : N = 0 := by omega
            subst e; simp only [cntB]
  | succ m ih =>
    by_cases e : N = m + 1
    · subst e
      exact cntB_congr _ (fun i hi => by simp [hi])
    · rw [cntB, ih (by omega)]
      have : ¬ m < N := by omega
      simp [this]
theorem nI_b2i {a : Nat} {b : Bool} : nI a + b2i b = nI (a + (if b = true then 1 else 0)) := by
  cases b
  · simp [b2i]
  · simp only [b2i, if_true]; exact nI_1 a
theorem X7_bits {p : Nat → Bool} (hN : N ≤ 10) : g_at 124 0 [.int (bitsOf p N), .null, .null] [] Z I J = some (some (.int (nI (cntB p N))), Z, I, J) := by
  have key := loop_eq (fun k => g_at 124 4 [.int (bitsOf p N), .int (nI (cntB (fun j => decide (j < N) && p j) k)), .int (nI k)] [] Z I J) (n := 10) (fun k hk => by
    have f3 : ¬ (10 : Int32) ≤ nI k := nI_ge (b := 10) hk (by omega)
    have hb := bits_bit (p := p) (n := N) (g := k) (by omega) (by omega)
    try dsimp only
    rw [q_124_4, cntB]
    simp (decide := true) only [gN1_int, gN1_ref, gN1_null, gN1_long, gTg8_8, gTg8_14, gTg9_9, gTg9_13, gTgA_8, gTgA_9, gTgA_10, gTgA_11, gTgA_13, gTgA_14, gB01_0, gB01_1, gB01_b, List.cons_append, List.nil_append, Option.toList_some, Option.toList_none, Option.bind_some, ↓reduceIte, eq_self, not_true_eq_false, not_false_eq_true, b2i_0, b2i_1, up_eq, up_ne, up_up, up_sort, up_self, fl_at, nI_s, q_124_0, q_124_1, q_124_2, q_124_3, q_124_5, q_124_7, q_124_10, q_124_11, q_124_12, q_124_13, q_124_14, q_124_15, q_124_16, q_124_17, q_124_18, q_124_21, q_124_24, q_124_25, f3, hb, nI_b2i])
  rw [cnt_ext 10 hN] at key
  simp only [cntB, nI_0] at key
  simp (decide := true) only [gN1_int, gN1_ref, gN1_null, gN1_long, gTg8_8, gTg8_14, gTg9_9, gTg9_13, gTgA_8, gTgA_9, gTgA_10, gTgA_11, gTgA_13, gTgA_14, gB01_0, gB01_1, gB01_b, List.cons_append, List.nil_append, Option.toList_some, Option.toList_none, Option.bind_some, ↓reduceIte, eq_self, not_true_eq_false, not_false_eq_true, b2i_0, b2i_1, up_eq, up_ne, up_up, up_sort, up_self, fl_at, nI_s, q_124_0, q_124_1, q_124_2, q_124_3]
  rw [key, q_124_4]
  simp (decide := true) only [gN1_int, gN1_ref, gN1_null, gN1_long, gTg8_8, gTg8_14, gTg9_9, gTg9_13, gTgA_8, gTgA_9, gTgA_10, gTgA_11, gTgA_13, gTgA_14, gB01_0, gB01_1, gB01_b, List.cons_append, List.nil_append, Option.toList_some, Option.toList_none, Option.bind_some, ↓reduceIte, eq_self, not_true_eq_false, not_false_eq_true, b2i_0, b2i_1, up_eq, up_ne, up_up, up_sort, up_self, fl_at, nI_s, q_124_0, q_124_1, q_124_2, q_124_3, q_124_5, q_124_7, q_124_10, q_124_11, q_124_12, q_124_13, q_124_14, q_124_15, q_124_16, q_124_17, q_124_18, q_124_21, q_124_24, q_124_25, show (10 : Int32) ≤ nI 10 from by decide]
def hoM (h : Nat → Int32) (g i : Nat) : Bool := hoP h g i && !decide (h g = -1)
def hoH2 (h : Nat → Int32) (g i : Nat) : Int32 := if hoM h g i = true then h g else h i
def hoS2 (h s : Nat → Int32) (g i : Nat) : Int32 := if hoM h g i = true then s i + s g else s i
theorem hoM_g {h : Nat → Int32} {g : Nat} : hoM h g g = false := by
  unfold hoM hoP
  by_cases q : h g = nI g
  · simp [q]
  · simp [q]
theorem hoH2_g {h : Nat → Int32} {g k : Nat} : fl (hoH2 h g) h k g = h g := by
  unfold fl hoH2
  rw [hoM_g]
  simp
theorem hoS2_g {h s : Nat → Int32} {g k : Nat} : fl (hoS2 h s g) s k g = s g := by
  unfold fl hoS2
  rw [hoM_g]
  simp
theorem ovH_2 {h : Nat → Int32} {g : Nat} : fl (hoH2 h g) h N = ovH h N g := by
  funext j
  unfold ovH fl hoH2 hoM hoH
  by_cases q : h g = -1
  · simp [q]
  · simp [q]
theorem ovS_2 {h s : Nat → Int32} {g : Nat} : fl (hoS2 h s g) s N = ovS h s N g := by
  funext j
  unfold ovS fl hoS2 hoM hoS
  by_cases q : h g = -1
  · simp [q]
  · simp [q]
theorem fl_back {f h : Nat → Int32} : fl h (fl f h N) N = h := by
  funext j
  unfold fl
  by_cases q : j < N <;> simp [q]
theorem X7_without (hZ : St Z) (h : HM I N w sl) {c g : Nat} (hc : c < N) (hg : g < N) : ∃ f, g_at 125 0 [.ref 38, .int (nI c), .int (nI g), .null, .null, .null] [] Z I J = some (some (.int (ovF (I 39) (I 40) (I 41) (I 42) w sl N c g)), Z, va_up I 50 f, J) := by
  have h2 := h.2.1
  have g4 : g < 10 := by omega
  obtain ⟨g0, g1, g2⟩ := ixs (j := g) (by omega)
  have key := loop_eq (fun k => g_at 125 5 [.ref 38, .int (nI c), .int (nI g), .int (bitsOf (hoM (I 39) g) k), .int (nI k), .null] [] Z (va_up (va_up I 39 (fl (hoH2 (I 39) g) (I 39) k)) 40 (fl (hoS2 (I 39) (I 40) g) (I 40) k)) J) (n := N) (fun k hk => by
    obtain ⟨f0, f1, f2⟩ := ixs (j := k) (by omega)
    have f3 : ¬ nI N ≤ nI k := nI_ge hk (by omega)
    have f4 : k < 10 := by omega
    try dsimp only
    rw [q_125_5]
    have no : hoM (I 39) g k = false → fl (hoH2 (I 39) g) (I 39) (k + 1) = fl (hoH2 (I 39) g) (I 39) k ∧ fl (hoS2 (I 39) (I 40) g) (I 40) (k + 1) = fl (hoS2 (I 39) (I 40) g) (I 40) k := fun hp => ⟨(fl_same (by simp [hoH2, hp])).symm, (fl_same (by simp [hoS2, hp])).symm⟩
    by_cases q1 : I 39 k = nI g
    · by_cases q2 : I 39 g = -1
      · have hp : hoM (I 39) g k = false := by simp [hoM, q2]
        obtain ⟨s1, s2⟩ := no hp
        simp (decide := true) only [gN1_int, gN1_ref, gN1_null, gN1_long, gTg8_8, gTg8_14, gTg9_9, gTg9_13, gTgA_8, gTgA_9, gTgA_10, gTgA_11, gTgA_13, gTgA_14, gB01_0, gB01_1, gB01_b, List.cons_append, List.nil_append, Option.toList_some, Option.toList_none, Option.bind_some, ↓reduceIte, eq_self, not_true_eq_false, not_false_eq_true, b2i_0, b2i_1, up_eq, up_ne, up_up, up_sort, up_self, fl_at, nI_s, q_125_0, q_125_1, q_125_2, q_125_3, q_125_7, q_125_8, q_125_11, q_125_14, q_125_15, q_125_18, q_125_20, q_125_21, q_125_22, q_125_25, q_125_26, q_125_29, q_125_30, q_125_31, q_125_32, q_125_35, q_125_36, q_125_39, q_125_40, q_125_41, q_125_43, q_125_46, q_125_47, q_125_50, q_125_52, q_125_53, q_125_56, q_125_57, q_125_58, q_125_59, q_125_60, q_125_63, q_125_65, q_125_66, q_125_67, q_125_68, q_125_71, q_125_72, q_125_73, q_125_74, q_125_75, q_125_76, q_125_77, q_125_79, q_125_80, q_125_81, q_125_82, q_125_85, q_125_88, q_125_89, q_125_90, q_125_93, q_125_96, q_125_98, q_125_99, q_125_101, q_125_103, q_125_104, q_125_107, q_125_110, q_125_111, q_125_113, q_125_116, q_125_119, q_125_120, q_125_123, q_125_125, q_125_126, q_125_127, q_125_128, q_125_131, q_125_133, q_125_134, q_125_135, q_125_136, q_125_139, q_125_140, q_125_141, q_125_142, q_125_143, q_125_146, q_125_149, q_125_151, zk_38, zk_39, zk_40, zs_38_1, zr_38_1, zs_38_2, zr_38_2, zs_38_3, zr_38_3, zs_38_4, zr_38_4, zs_38_8, zr_38_8, zs_38_17, zr_38_17, zs_38_18, zr_38_18, zs_38_19, zr_38_19, zs_38_22, zr_38_22, zs_38_23, zr_38_23, zs_38_25, zr_38_25, zs_38_26, zr_38_26, zs_38_28, zr_38_28, zs_38_29, zr_38_29, hZ, h.1, f0, f1, f2, f3, f4, g0, g1, g2, g4, hoH2_g, q1, q2, hp, s1, s2, bitsOf_s (k := k), Bool.false_eq_true]
      · by_cases q3 : I 39 g = nI k
        · have hp : hoM (I 39) g k = false := by simp [hoM, hoP, q3]
          obtain ⟨s1, s2⟩ := no hp
          have q2' : ¬ nI k = -1 := by rw [← q3]; exact q2
          simp (decide := true) only [gN1_int, gN1_ref, gN1_null, gN1_long, gTg8_8, gTg8_14, gTg9_9, gTg9_13, gTgA_8, gTgA_9, gTgA_10, gTgA_11, gTgA_13, gTgA_14, gB01_0, gB01_1, gB01_b, List.cons_append, List.nil_append, Option.toList_some, Option.toList_none, Option.bind_some, ↓reduceIte, eq_self, not_true_eq_false, not_false_eq_true, b2i_0, b2i_1, up_eq, up_ne, up_up, up_sort, up_self, fl_at, nI_s, q_125_0, q_125_1, q_125_2, q_125_3, q_125_7, q_125_8, q_125_11, q_125_14, q_125_15, q_125_18, q_125_20, q_125_21, q_125_22, q_125_25, q_125_26, q_125_29, q_125_30, q_125_31, q_125_32, q_125_35, q_125_36, q_125_39, q_125_40, q_125_41, q_125_43, q_125_46, q_125_47, q_125_50, q_125_52, q_125_53, q_125_56, q_125_57, q_125_58, q_125_59, q_125_60, q_125_63, q_125_65, q_125_66, q_125_67, q_125_68, q_125_71, q_125_72, q_125_73, q_125_74, q_125_75, q_125_76, q_125_77, q_125_79, q_125_80, q_125_81, q_125_82, q_125_85, q_125_88, q_125_89, q_125_90, q_125_93, q_125_96, q_125_98, q_125_99, q_125_101, q_125_103, q_125_104, q_125_107, q_125_110, q_125_111, q_125_113, q_125_116, q_125_119, q_125_120, q_125_123, q_125_125, q_125_126, q_125_127, q_125_128, q_125_131, q_125_133, q_125_134, q_125_135, q_125_136, q_125_139, q_125_140, q_125_141, q_125_142, q_125_143, q_125_146, q_125_149, q_125_151, zk_38, zk_39, zk_40, zs_38_1, zr_38_1, zs_38_2, zr_38_2, zs_38_3, zr_38_3, zs_38_4, zr_38_4, zs_38_8, zr_38_8, zs_38_17, zr_38_17, zs_38_18, zr_38_18, zs_38_19, zr_38_19, zs_38_22, zr_38_22, zs_38_23, zr_38_23, zs_38_25, zr_38_25, zs_38_26, zr_38_26, zs_38_28, zr_38_28, zs_38_29, zr_38_29, hZ, h.1, f0, f1, f2, f3, f4, g0, g1, g2, g4, hoH2_g, q1, q2', q3, hp, s1, s2, bitsOf_s (k := k), Bool.false_eq_true]
        · have q3' : ¬ nI k = I 39 g := fun z => q3 z.symm
          have hp : hoM (I 39) g k = true := by simp [hoM, hoP, q1, q2, q3']
          have e1 : hoH2 (I 39) g k = I 39 g := by simp [hoH2, hp]
          have e2 : hoS2 (I 39) (I 40) g k = I 40 k + I 40 g := by simp [hoS2, hp]
          simp (decide := true) only [gN1_int, gN1_ref, gN1_null, gN1_long, gTg8_8, gTg8_14, gTg9_9, gTg9_13, gTgA_8, gTgA_9, gTgA_10, gTgA_11, gTgA_13, gTgA_14, gB01_0, gB01_1, gB01_b, List.cons_append, List.nil_append, Option.toList_some, Option.toList_none, Option.bind_some, ↓reduceIte, eq_self, not_true_eq_false, not_false_eq_true, b2i_0, b2i_1, up_eq, up_ne, up_up, up_sort, up_self, fl_at, nI_s, q_125_0, q_125_1, q_125_2, q_125_3, q_125_7, q_125_8, q_125_11, q_125_14, q_125_15, q_125_18, q_125_20, q_125_21, q_125_22, q_125_25, q_125_26, q_125_29, q_125_30, q_125_31, q_125_32, q_125_35, q_125_36, q_125_39, q_125_40, q_125_41, q_125_43, q_125_46, q_125_47, q_125_50, q_125_52, q_125_53, q_125_56, q_125_57, q_125_58, q_125_59, q_125_60, q_125_63, q_125_65, q_125_66, q_125_67, q_125_68, q_125_71, q_125_72, q_125_73, q_125_74, q_125_75, q_125_76, q_125_77, q_125_79, q_125_80, q_125_81, q_125_82, q_125_85, q_125_88, q_125_89, q_125_90, q_125_93, q_125_96, q_125_98, q_125_99, q_125_101, q_125_103, q_125_104, q_125_107, q_125_110, q_125_111, q_125_113, q_125_116, q_125_119, q_125_120, q_125_123, q_125_125, q_125_126, q_125_127, q_125_128, q_125_131, q_125_133, q_125_134, q_125_135, q_125_136, q_125_139, q_125_140, q_125_141, q_125_142, q_125_143, q_125_146, q_125_149, q_125_151, zk_38, zk_39, zk_40, zs_38_1, zr_38_1, zs_38_2, zr_38_2, zs_38_3, zr_38_3, zs_38_4, zr_38_4, zs_38_8, zr_38_8, zs_38_17, zr_38_17, zs_38_18, zr_38_18, zs_38_19, zr_38_19, zs_38_22, zr_38_22, zs_38_23, zr_38_23, zs_38_25, zr_38_25, zs_38_26, zr_38_26, zs_38_28, zr_38_28, zs_38_29, zr_38_29, hZ, h.1, f0, f1, f2, f3, f4, g0, g1, g2, g4, hoH2_g, hoS2_g, q1, q2, q3, hp, e1, e2, fl_next, bitsOf_s (k := k)]
    · have hp : hoM (I 39) g k = false := by simp [hoM, hoP, q1]
      obtain ⟨s1, s2⟩ := no hp
      simp (decide := true) only [gN1_int, gN1_ref, gN1_null, gN1_long, gTg8_8, gTg8_14, gTg9_9, gTg9_13, gTgA_8, gTgA_9, gTgA_10, gTgA_11, gTgA_13, gTgA_14, gB01_0, gB01_1, gB01_b, List.cons_append, List.nil_append, Option.toList_some, Option.toList_none, Option.bind_some, ↓reduceIte, eq_self, not_true_eq_false, not_false_eq_true, b2i_0, b2i_1, up_eq, up_ne, up_up, up_sort, up_self, fl_at, nI_s, q_125_0, q_125_1, q_125_2, q_125_3, q_125_7, q_125_8, q_125_11, q_125_14, q_125_15, q_125_18, q_125_20, q_125_21, q_125_22, q_125_25, q_125_26, q_125_29, q_125_30, q_125_31, q_125_32, q_125_35, q_125_36, q_125_39, q_125_40, q_125_41, q_125_43, q_125_46, q_125_47, q_125_50, q_125_52, q_125_53, q_125_56, q_125_57, q_125_58, q_125_59, q_125_60, q_125_63, q_125_65, q_125_66, q_125_67, q_125_68, q_125_71, q_125_72, q_125_73, q_125_74, q_125_75, q_125_76, q_125_77, q_125_79, q_125_80, q_125_81, q_125_82, q_125_85, q_125_88, q_125_89, q_125_90, q_125_93, q_125_96, q_125_98, q_125_99, q_125_101, q_125_103, q_125_104, q_125_107, q_125_110, q_125_111, q_125_113, q_125_116, q_125_119, q_125_120, q_125_123, q_125_125, q_125_126, q_125_127, q_125_128, q_125_131, q_125_133, q_125_134, q_125_135, q_125_136, q_125_139, q_125_140, q_125_141, q_125_142, q_125_143, q_125_146, q_125_149, q_125_151, zk_38, zk_39, zk_40, zs_38_1, zr_38_1, zs_38_2, zr_38_2, zs_38_3, zr_38_3, zs_38_4, zr_38_4, zs_38_8, zr_38_8, zs_38_17, zr_38_17, zs_38_18, zr_38_18, zs_38_19, zr_38_19, zs_38_22, zr_38_22, zs_38_23, zr_38_23, zs_38_25, zr_38_25, zs_38_26, zr_38_26, zs_38_28, zr_38_28, zs_38_29, zr_38_29, hZ, h.1, f0, f1, f2, f3, f4, q1, hp, s1, s2, bitsOf_s (k := k), Bool.false_eq_true])
  simp (decide := true) only [fl_0, up_self, up_self2, nI_0, bitsOf_0, ovH_2, ovS_2] at key
  have hF2 : HM (va_up (va_up I 39 (ovH (I 39) N g)) 40 (ovS (I 39) (I 40) N g)) N w sl := by
    unfold HM at h ⊢
    simp (decide := true) only [up_ne, up_eq]
    exact ⟨h.1, h.2.1, ov_hw h.2.2.1 g4, h.2.2.2⟩
  have hly := X7_layFirst (J := J) hZ hF2 hc
  simp (decide := true) only [up_ne, up_eq] at hly
  generalize mtF (ovH (I 39) N g) (ovS (I 39) (I 40) N g) (I 41) (I 42) w sl N c = mf at hly
  refine ⟨fl mf (I 50) N, ?_⟩
  have key2 := loop_eq (fun k => g_at 125 101 [.ref 38, .int (nI c), .int (nI g), .int (bitsOf (hoM (I 39) g) N), .int (ovF (I 39) (I 40) (I 41) (I 42) w sl N c g), .int (nI k)] [] Z (va_up (va_up (va_up I 39 (fl (I 39) (fl (hoH2 (I 39) g) (I 39) N) k)) 40 (fl (I 40) (fl (hoS2 (I 39) (I 40) g) (I 40) N) k)) 50 (fl mf (I 50) N)) J) (n := N) (fun k hk => by
    obtain ⟨f0, f1, f2⟩ := ixs (j := k) (by omega)
    have f3 : ¬ nI N ≤ nI k := nI_ge hk (by omega)
    have f4 : k < 10 := by omega
    have hb := bits_bit (p := hoM (I 39) g) (n := N) (g := k) (by omega) (by omega)
    have hk' : decide (k < N) = true := by simp [hk]
    rw [hk', Bool.true_and] at hb
    try dsimp only
    rw [q_125_101]
    cases hp : hoM (I 39) g k
    · rw [hp] at hb
      have s1 : fl (I 39) (fl (hoH2 (I 39) g) (I 39) N) (k + 1) = fl (I 39) (fl (hoH2 (I 39) g) (I 39) N) k := (fl_same (by rw [fl_lt hk]; simp [hoH2, hp])).symm
      have s2 : fl (I 40) (fl (hoS2 (I 39) (I 40) g) (I 40) N) (k + 1) = fl (I 40) (fl (hoS2 (I 39) (I 40) g) (I 40) N) k := (fl_same (by rw [fl_lt hk]; simp [hoS2, hp])).symm
      simp (decide := true) only [gN1_int, gN1_ref, gN1_null, gN1_long, gTg8_8, gTg8_14, gTg9_9, gTg9_13, gTgA_8, gTgA_9, gTgA_10, gTgA_11, gTgA_13, gTgA_14, gB01_0, gB01_1, gB01_b, List.cons_append, List.nil_append, Option.toList_some, Option.toList_none, Option.bind_some, ↓reduceIte, eq_self, not_true_eq_false, not_false_eq_true, b2i_0, b2i_1, up_eq, up_ne, up_up, up_sort, up_self, fl_at, nI_s, q_125_0, q_125_1, q_125_2, q_125_3, q_125_5, q_125_7, q_125_8, q_125_11, q_125_14, q_125_15, q_125_18, q_125_20, q_125_21, q_125_22, q_125_25, q_125_26, q_125_29, q_125_30, q_125_31, q_125_32, q_125_35, q_125_36, q_125_39, q_125_40, q_125_41, q_125_43, q_125_46, q_125_47, q_125_50, q_125_52, q_125_53, q_125_56, q_125_57, q_125_58, q_125_59, q_125_60, q_125_63, q_125_65, q_125_66, q_125_67, q_125_68, q_125_71, q_125_72, q_125_73, q_125_74, q_125_75, q_125_76, q_125_77, q_125_79, q_125_80, q_125_81, q_125_82, q_125_85, q_125_88, q_125_89, q_125_90, q_125_93, q_125_96, q_125_98, q_125_99, q_125_103, q_125_104, q_125_107, q_125_110, q_125_111, q_125_113, q_125_116, q_125_119, q_125_120, q_125_123, q_125_125, q_125_126, q_125_127, q_125_128, q_125_131, q_125_133, q_125_134, q_125_135, q_125_136, q_125_139, q_125_140, q_125_141, q_125_142, q_125_143, q_125_146, q_125_149, q_125_151, zk_38, zk_39, zk_40, zs_38_1, zr_38_1, zs_38_2, zr_38_2, zs_38_3, zr_38_3, zs_38_4, zr_38_4, zs_38_8, zr_38_8, zs_38_17, zr_38_17, zs_38_18, zr_38_18, zs_38_19, zr_38_19, zs_38_22, zr_38_22, zs_38_23, zr_38_23, zs_38_25, zr_38_25, zs_38_26, zr_38_26, zs_38_28, zr_38_28, zs_38_29, zr_38_29, hZ, h.1, f0, f1, f2, f3, f4, X7_has, hb, s1, s2, decide_false]
    · rw [hp] at hb
      have q1 : I 39 k = nI g := by
        unfold hoM hoP at hp
        simp at hp
        exact hp.1.1
      have x1 : fl (I 40) (fl (hoS2 (I 39) (I 40) g) (I 40) N) k g = I 40 g := by
        by_cases z : g < k
        · rw [fl_lt z]
        · rw [fl_ge z]; exact hoS2_g
      have x2 : fl (hoS2 (I 39) (I 40) g) (I 40) N k = I 40 k + I 40 g := by rw [fl_lt hk]; simp [hoS2, hp]
      have x3 : I 40 k + I 40 g - I 40 g = I 40 k := Int32.add_sub_cancel _ _
      simp (decide := true) only [gN1_int, gN1_ref, gN1_null, gN1_long, gTg8_8, gTg8_14, gTg9_9, gTg9_13, gTgA_8, gTgA_9, gTgA_10, gTgA_11, gTgA_13, gTgA_14, gB01_0, gB01_1, gB01_b, List.cons_append, List.nil_append, Option.toList_some, Option.toList_none, Option.bind_some, ↓reduceIte, eq_self, not_true_eq_false, not_false_eq_true, b2i_0, b2i_1, up_eq, up_ne, up_up, up_sort, up_self, fl_at, nI_s, q_125_0, q_125_1, q_125_2, q_125_3, q_125_5, q_125_7, q_125_8, q_125_11, q_125_14, q_125_15, q_125_18, q_125_20, q_125_21, q_125_22, q_125_25, q_125_26, q_125_29, q_125_30, q_125_31, q_125_32, q_125_35, q_125_36, q_125_39, q_125_40, q_125_41, q_125_43, q_125_46, q_125_47, q_125_50, q_125_52, q_125_53, q_125_56, q_125_57, q_125_58, q_125_59, q_125_60, q_125_63, q_125_65, q_125_66, q_125_67, q_125_68, q_125_71, q_125_72, q_125_73, q_125_74, q_125_75, q_125_76, q_125_77, q_125_79, q_125_80, q_125_81, q_125_82, q_125_85, q_125_88, q_125_89, q_125_90, q_125_93, q_125_96, q_125_98, q_125_99, q_125_103, q_125_104, q_125_107, q_125_110, q_125_111, q_125_113, q_125_116, q_125_119, q_125_120, q_125_123, q_125_125, q_125_126, q_125_127, q_125_128, q_125_131, q_125_133, q_125_134, q_125_135, q_125_136, q_125_139, q_125_140, q_125_141, q_125_142, q_125_143, q_125_146, q_125_149, q_125_151, zk_38, zk_39, zk_40, zs_38_1, zr_38_1, zs_38_2, zr_38_2, zs_38_3, zr_38_3, zs_38_4, zr_38_4, zs_38_8, zr_38_8, zs_38_17, zr_38_17, zs_38_18, zr_38_18, zs_38_19, zr_38_19, zs_38_22, zr_38_22, zs_38_23, zr_38_23, zs_38_25, zr_38_25, zs_38_26, zr_38_26, zs_38_28, zr_38_28, zs_38_29, zr_38_29, hZ, h.1, f0, f1, f2, f3, f4, g0, g1, g2, g4, X7_has, hb, x1, x2, x3, q1, fl_next, decide_true, Bool.true_eq_false])
  rw [fl_back, fl_back] at key2
  simp (decide := true) only [fl_0, up_self, up_self2, nI_0, ovH_2, ovS_2] at key2
  have hbt := X7_bits (Z := Z) (I := va_up (va_up (va_up I 39 (ovH (I 39) N g)) 40 (ovS (I 39) (I 40) N g)) 50 (fl mf (I 50) N)) (J := J) (p := whoP (ovH (I 39) N g) (ovS (I 39) (I 40) N g) (I 41) (I 42) w sl N c) h2
  have ho : nI (cntB (whoP (ovH (I 39) N g) (ovS (I 39) (I 40) N g) (I 41) (I 42) w sl N c) N) = ovF (I 39) (I 40) (I 41) (I 42) w sl N c g := rfl
  rw [ho] at hbt
  simp (decide := true) only [gN1_int, gN1_ref, gN1_null, gN1_long, gTg8_8, gTg8_14, gTg9_9, gTg9_13, gTgA_8, gTgA_9, gTgA_10, gTgA_11, gTgA_13, gTgA_14, gB01_0, gB01_1, gB01_b, List.cons_append, List.nil_append, Option.toList_some, Option.toList_none, Option.bind_some, ↓reduceIte, eq_self, not_true_eq_false, not_false_eq_true, b2i_0, b2i_1, up_eq, up_ne, up_up, up_sort, up_self, fl_at, nI_s, q_125_0, q_125_1, q_125_2, q_125_3]
  rw [key, q_125_5]
  simp (decide := true) only [gN1_int, gN1_ref, gN1_null, gN1_long, gTg8_8, gTg8_14, gTg9_9, gTg9_13, gTgA_8, gTgA_9, gTgA_10, gTgA_11, gTgA_13, gTgA_14, gB01_0, gB01_1, gB01_b, List.cons_append, List.nil_append, Option.toList_some, Option.toList_none, Option.bind_some, ↓reduceIte, eq_self, not_true_eq_false, not_false_eq_true, b2i_0, b2i_1, up_eq, up_ne, up_up, up_sort, up_self, fl_at, nI_s, q_125_7, q_125_8, q_125_11, q_125_88, q_125_89, q_125_90, q_125_93, q_125_96, q_125_98, q_125_99, zk_38, zs_38_1, zr_38_1, zs_38_2, zr_38_2, zs_38_3, zr_38_3, zs_38_4, zr_38_4, zs_38_8, zr_38_8, zs_38_17, zr_38_17, zs_38_18, zr_38_18, zs_38_19, zr_38_19, zs_38_22, zr_38_22, zs_38_23, zr_38_23, zs_38_25, zr_38_25, zs_38_26, zr_38_26, zs_38_28, zr_38_28, zs_38_29, zr_38_29, hZ, h.1, Int32.le_refl, hly, hbt]
  rw [key2, q_125_101]
  simp (decide := true) only [gN1_int, gN1_ref, gN1_null, gN1_long, gTg8_8, gTg8_14, gTg9_9, gTg9_13, gTgA_8, gTgA_9, gTgA_10, gTgA_11, gTgA_13, gTgA_14, gB01_0, gB01_1, gB01_b, List.cons_append, List.nil_append, Option.toList_some, Option.toList_none, Option.bind_some, ↓reduceIte, eq_self, not_true_eq_false, not_false_eq_true, b2i_0, b2i_1, up_eq, up_ne, up_up, up_sort, up_self, fl_at, nI_s, q_125_0, q_125_1, q_125_2, q_125_3, q_125_7, q_125_8, q_125_11, q_125_14, q_125_15, q_125_18, q_125_20, q_125_21, q_125_22, q_125_25, q_125_26, q_125_29, q_125_30, q_125_31, q_125_32, q_125_35, q_125_36, q_125_39, q_125_40, q_125_41, q_125_43, q_125_46, q_125_47, q_125_50, q_125_52, q_125_53, q_125_56, q_125_57, q_125_58, q_125_59, q_125_60, q_125_63, q_125_65, q_125_66, q_125_67, q_125_68, q_125_71, q_125_72, q_125_73, q_125_74, q_125_75, q_125_76, q_125_77, q_125_79, q_125_80, q_125_81, q_125_82, q_125_85, q_125_88, q_125_89, q_125_90, q_125_93, q_125_96, q_125_98, q_125_99, q_125_103, q_125_104, q_125_107, q_125_110, q_125_111, q_125_113, q_125_116, q_125_119, q_125_120, q_125_123, q_125_125, q_125_126, q_125_127, q_125_128, q_125_131, q_125_133, q_125_134, q_125_135, q_125_136, q_125_139, q_125_140, q_125_141, q_125_142, q_125_143, q_125_146, q_125_149, q_125_151, zk_38, zs_38_1, zr_38_1, zs_38_2, zr_38_2, zs_38_3, zr_38_3, zs_38_4, zr_38_4, zs_38_8, zr_38_8, zs_38_17, zr_38_17, zs_38_18, zr_38_18, zs_38_19, zr_38_19, zs_38_22, zr_38_22, zs_38_23, zr_38_23, zs_38_25, zr_38_25, zs_38_26, zr_38_26, zs_38_28, zr_38_28, zs_38_29, zr_38_29, hZ, h.1, Int32.le_refl]
end
