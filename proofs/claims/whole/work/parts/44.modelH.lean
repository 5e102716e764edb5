/-! the reference's OVER, its seeking -/
section
variable {Z : gZ} {I : gI} {J : gJ} {N : Nat} {w sl : Int32}
theorem hm_50 {f : Nat → Int32} (h : HM I N w sl) : HM (va_up I 50 f) N w sl := by
  unfold HM at h ⊢
  simp (decide := true) only [up_ne]
  exact h
theorem cnt_le {p : Nat → Bool} (n : Nat) : cntB p n ≤ n := by
  induction n with
  | zero => simp [cntB]
  | succ n ih => rw [cntB]; split <;> omega
theorem ov_st {h s k d : Nat → Int32} {c : Nat} (hN : N ≤ 10) : ∀ n, (∃ v, v ≤ 10 ∧ (ovO (ovF h s k d w sl N c) k (nI (cntB (whoP h s k d w sl N c) N), -1, -1) n).1 = nI v) ∧ (((ovO (ovF h s k d w sl N c) k (nI (cntB (whoP h s k d w sl N c) N), -1, -1) n).2.2 = -1 ∧ (ovO (ovF h s k d w sl N c) k (nI (cntB (whoP h s k d w sl N c) N), -1, -1) n).2.1 = -1) ∨ (∃ g, g < n ∧ (ovO (ovF h s k d w sl N c) k (nI (cntB (whoP h s k d w sl N c) N), -1, -1) n).2.2 = nI g ∧ (ovO (ovF h s k d w sl N c) k (nI (cntB (whoP h s k d w sl N c) N), -1, -1) n).2.1 = (ovO (ovF h s k d w sl N c) k (nI (cntB (whoP h s k d w sl N c) N), -1, -1) n).1)) := by
  intro n
  induction n with
  | zero =>
    simp only [ovO]
    exact ⟨⟨_, by have := cnt_le (p := whoP h s k d w sl N c) N; omega, rfl⟩, by simp⟩
  | succ n ih =>
    simp only [ovO]
    generalize ovO (ovF h s k d w sl N c) k (nI (cntB (whoP h s k d w sl N c) N), -1, -1) n = st at ih
    have ih' : (∃ v, v ≤ 10 ∧ st.1 = nI v) ∧ ((st.2.2 = -1 ∧ st.2.1 = -1) ∨ (∃ g, g < n + 1 ∧ st.2.2 = nI g ∧ st.2.1 = st.1)) := by
      refine ⟨ih.1, ?_⟩
      rcases ih.2 with q | ⟨g, q1, q2⟩
      · exact Or.inl q
      · exact Or.inr ⟨g, by omega, q2⟩
    split
    · unfold ovT
      split
      · exact ih'
      · refine ⟨⟨_, by have := cnt_le (p := whoP (ovH h N n) (ovS h s N n) k d w sl N c) N; omega, rfl⟩, Or.inr ⟨n, by omega, rfl, rfl⟩⟩
    · exact ih'
theorem X7_over_no (hZ : St Z) (h : HM I N w sl) (h1 : 1 ≤ N) {c v : Int32} (hg : hasG (nI N) c = false) : g_at 126 0 [.ref 38, .int c, .int v, .null, .null, .null, .null] [] Z I J = some (some (.int (-2)), Z, I, J) := by
  simp (decide := true) only [gN1_int, gN1_ref, gN1_null, gN1_long, gTg8_8, gTg8_14, gTg9_9, gTg9_13, gTgA_8, gTgA_9, gTgA_10, gTgA_11, gTgA_13, gTgA_14, gB01_0, gB01_1, gB01_b, List.cons_append, List.nil_append, Option.toList_some, Option.toList_none, Option.bind_some, ↓reduceIte, eq_self, not_true_eq_false, not_false_eq_true, b2i_0, b2i_1, up_eq, up_ne, up_up, up_sort, up_self, fl_at, nI_s, q_126_0, q_126_1, q_126_2, q_126_5, q_126_8, q_126_10, q_126_11, q_126_12, q_126_13, q_126_14, q_126_17, q_126_20, q_126_22, q_126_23, zk_38, zs_38_1, zr_38_1, zs_38_2, zr_38_2, zs_38_3, zr_38_3, zs_38_4, zr_38_4, zs_38_8, zr_38_8, zs_38_17, zr_38_17, zs_38_18, zr_38_18, zs_38_19, zr_38_19, zs_38_22, zr_38_22, zs_38_23, zr_38_23, zs_38_25, zr_38_25, zs_38_26, zr_38_26, zs_38_28, zr_38_28, zs_38_29, zr_38_29, hZ, hm_is hZ h h1, hg]
theorem X7_over_out (hZ : St Z) (h : HM I N w sl) {c : Nat} (hc : c < N) {v : Int32} (hv : v < 0 ∨ ¬ v ≤ 1) : g_at 126 0 [.ref 38, .int (nI c), .int v, .null, .null, .null, .null] [] Z I J = some (some (.int (-3)), Z, I, J) := by
  have hin : (decide (0 ≤ v) && decide (v ≤ 1)) = false := by
    rcases hv with q | q
    · simp [Int32.not_le.mpr q]
    · simp [q]
  simp (decide := true) only [gN1_int, gN1_ref, gN1_null, gN1_long, gTg8_8, gTg8_14, gTg9_9, gTg9_13, gTgA_8, gTgA_9, gTgA_10, gTgA_11, gTgA_13, gTgA_14, gB01_0, gB01_1, gB01_b, List.cons_append, List.nil_append, Option.toList_some, Option.toList_none, Option.bind_some, ↓reduceIte, eq_self, not_true_eq_false, not_false_eq_true, b2i_0, b2i_1, up_eq, up_ne, up_up, up_sort, up_self, fl_at, nI_s, q_126_0, q_126_1, q_126_2, q_126_5, q_126_8, q_126_10, q_126_11, q_126_12, q_126_13, q_126_14, q_126_17, q_126_20, q_126_22, q_126_23, zk_38, zs_38_1, zr_38_1, zs_38_2, zr_38_2, zs_38_3, zr_38_3, zs_38_4, zr_38_4, zs_38_8, zr_38_8, zs_38_17, zr_38_17, zs_38_18, zr_38_18, zs_38_19, zr_38_19, zs_38_22, zr_38_22, zs_38_23, zr_38_23, zs_38_25, zr_38_25, zs_38_26, zr_38_26, zs_38_28, zr_38_28, zs_38_29, zr_38_29, hZ, hm_is hZ h (show 1 ≤ N by omega), hm_g h hc, X7_in, hin, Bool.true_eq_false]
theorem X7_over (hZ : St Z) (h : HM I N w sl) {c : Nat} (hc : c < N) {v : Int32} (h1 : ¬ v < 0) (h2 : v ≤ 1) : ∃ f, g_at 126 0 [.ref 38, .int (nI c), .int v, .null, .null, .null, .null] [] Z I J = some (some (.int (if (ovR (I 39) (I 40) (I 41) (I 42) w sl N c).2.2 = -1 then -1 else if v = 0 then (ovR (I 39) (I 40) (I 41) (I 42) w sl N c).2.2 else (ovR (I 39) (I 40) (I 41) (I 42) w sl N c).1)), Z, va_up I 50 f, J) := by
  have hN := h.2.1
  have hin : (decide (0 ≤ v) && decide (v ≤ 1)) = true := by simp [Int32.not_lt.mp h1, h2]
  obtain ⟨b', -, e⟩ := loop_ink (fun i (x : (Nat → Int32) × Value) => g_at 126 38 [.ref 38, .int (nI c), .int v, .int (ovO (ovF (I 39) (I 40) (I 41) (I 42) w sl N c) (I 41) (nI (cntB (whoP (I 39) (I 40) (I 41) (I 42) w sl N c) N), -1, -1) i).1, .int (ovO (ovF (I 39) (I 40) (I 41) (I 42) w sl N c) (I 41) (nI (cntB (whoP (I 39) (I 40) (I 41) (I 42) w sl N c) N), -1, -1) i).2.2, .int (nI i), x.2] [] Z (va_up I 50 x.1) J) (fun _ _ => True) (n := N) (fun i hi x _ => by
    obtain ⟨f, u⟩ := x
    try dsimp only
    have hst := (ov_st (h := I 39) (s := I 40) (k := I 41) (d := I 42) (w := w) (sl := sl) (c := c) hN i).1
    rw [ovO]
    generalize ovO (ovF (I 39) (I 40) (I 41) (I 42) w sl N c) (I 41) (nI (cntB (whoP (I 39) (I 40) (I 41) (I 42) w sl N c) N), -1, -1) i = st at hst
    obtain ⟨m, hm, hst⟩ := hst
    obtain ⟨f0, f1, f2⟩ := ixs (j := i) (by omega)
    have f3 : ¬ nI N ≤ nI i := nI_ge hi (by omega)
    have f4 : i < 10 := by omega
    have z0 : (0 : Int32) ≤ st.1 := by rw [hst]; exact nI_pos' (by omega)
    obtain ⟨f', hwt⟩ := X7_without (J := J) hZ (hm_50 (f := f) h) hc hi
    simp (decide := true) only [up_ne, up_up] at hwt
    rw [q_126_38]
    by_cases q1 : I 41 i = 1
    · rw [if_pos q1]
      generalize ovF (I 39) (I 40) (I 41) (I 42) w sl N c i = y at hwt
      refine ⟨(f', .int y), trivial, ?_⟩
      by_cases q2 : y ≤ st.1
      · rw [ovT, if_pos q2]
        simp (decide := true) only [gN1_int, gN1_ref, gN1_null, gN1_long, gTg8_8, gTg8_14, gTg9_9, gTg9_13, gTgA_8, gTgA_9, gTgA_10, gTgA_11, gTgA_13, gTgA_14, gB01_0, gB01_1, gB01_b, List.cons_append, List.nil_append, Option.toList_some, Option.toList_none, Option.bind_some, ↓reduceIte, eq_self, not_true_eq_false, not_false_eq_true, b2i_0, b2i_1, up_eq, up_ne, up_up, up_sort, up_self, fl_at, nI_s, q_126_0, q_126_1, q_126_2, q_126_5, q_126_8, q_126_10, q_126_11, q_126_12, q_126_13, q_126_14, q_126_17, q_126_20, q_126_22, q_126_23, q_126_24, q_126_25, q_126_28, q_126_31, q_126_32, q_126_33, q_126_35, q_126_36, q_126_40, q_126_41, q_126_44, q_126_47, q_126_48, q_126_51, q_126_53, q_126_54, q_126_55, q_126_58, q_126_59, q_126_60, q_126_62, q_126_65, q_126_68, q_126_69, q_126_71, q_126_73, q_126_74, q_126_77, q_126_79, q_126_82, q_126_84, q_126_86, q_126_88, q_126_89, q_126_92, q_126_94, q_126_97, q_126_98, q_126_99, q_126_102, q_126_105, q_126_107, q_126_108, q_126_111, q_126_112, q_126_115, q_126_117, q_126_120, q_126_121, zk_38, zk_41, zs_38_1, zr_38_1, zs_38_2, zr_38_2, zs_38_3, zr_38_3, zs_38_4, zr_38_4, zs_38_8, zr_38_8, zs_38_17, zr_38_17, zs_38_18, zr_38_18, zs_38_19, zr_38_19, zs_38_22, zr_38_22, zs_38_23, zr_38_23, zs_38_25, zr_38_25, zs_38_26, zr_38_26, zs_38_28, zr_38_28, zs_38_29, zr_38_29, hZ, h.1, f0, f1, f2, f3, f4, q1, q2, hwt]
      · rw [ovT, if_neg q2]
        simp (decide := true) only [gN1_int, gN1_ref, gN1_null, gN1_long, gTg8_8, gTg8_14, gTg9_9, gTg9_13, gTgA_8, gTgA_9, gTgA_10, gTgA_11, gTgA_13, gTgA_14, gB01_0, gB01_1, gB01_b, List.cons_append, List.nil_append, Option.toList_some, Option.toList_none, Option.bind_some, ↓reduceIte, eq_self, not_true_eq_false, not_false_eq_true, b2i_0, b2i_1, up_eq, up_ne, up_up, up_sort, up_self, fl_at, nI_s, q_126_0, q_126_1, q_126_2, q_126_5, q_126_8, q_126_10, q_126_11, q_126_12, q_126_13, q_126_14, q_126_17, q_126_20, q_126_22, q_126_23, q_126_24, q_126_25, q_126_28, q_126_31, q_126_32, q_126_33, q_126_35, q_126_36, q_126_40, q_126_41, q_126_44, q_126_47, q_126_48, q_126_51, q_126_53, q_126_54, q_126_55, q_126_58, q_126_59, q_126_60, q_126_62, q_126_65, q_126_68, q_126_69, q_126_71, q_126_73, q_126_74, q_126_77, q_126_79, q_126_82, q_126_84, q_126_86, q_126_88, q_126_89, q_126_92, q_126_94, q_126_97, q_126_98, q_126_99, q_126_102, q_126_105, q_126_107, q_126_108, q_126_111, q_126_112, q_126_115, q_126_117, q_126_120, q_126_121, zk_38, zk_41, zs_38_1, zr_38_1, zs_38_2, zr_38_2, zs_38_3, zr_38_3, zs_38_4, zr_38_4, zs_38_8, zr_38_8, zs_38_17, zr_38_17, zs_38_18, zr_38_18, zs_38_19, zr_38_19, zs_38_22, zr_38_22, zs_38_23, zr_38_23, zs_38_25, zr_38_25, zs_38_26, zr_38_26, zs_38_28, zr_38_28, zs_38_29, zr_38_29, hZ, h.1, f0, f1, f2, f3, f4, q1, q2, hwt]
    · rw [if_neg q1]
      refine ⟨(f, .int 0), trivial, ?_⟩
      simp (decide := true) only [gN1_int, gN1_ref, gN1_null, gN1_long, gTg8_8, gTg8_14, gTg9_9, gTg9_13, gTgA_8, gTgA_9, gTgA_10, gTgA_11, gTgA_13, gTgA_14, gB01_0, gB01_1, gB01_b, List.cons_append, List.nil_append, Option.toList_some, Option.toList_none, Option.bind_some, ↓reduceIte, eq_self, not_true_eq_false, not_false_eq_true, b2i_0, b2i_1, up_eq, up_ne, up_up, up_sort, up_self, fl_at, nI_s, q_126_0, q_126_1, q_126_2, q_126_5, q_126_8, q_126_10, q_126_11, q_126_12, q_126_13, q_126_14, q_126_17, q_126_20, q_126_22, q_126_23, q_126_24, q_126_25, q_126_28, q_126_31, q_126_32, q_126_33, q_126_35, q_126_36, q_126_40, q_126_41, q_126_44, q_126_47, q_126_48, q_126_51, q_126_53, q_126_54, q_126_55, q_126_58, q_126_59, q_126_60, q_126_62, q_126_65, q_126_68, q_126_69, q_126_71, q_126_73, q_126_74, q_126_77, q_126_79, q_126_82, q_126_84, q_126_86, q_126_88, q_126_89, q_126_92, q_126_94, q_126_97, q_126_98, q_126_99, q_126_102, q_126_105, q_126_107, q_126_108, q_126_111, q_126_112, q_126_115, q_126_117, q_126_120, q_126_121, zk_38, zk_41, zs_38_1, zr_38_1, zs_38_2, zr_38_2, zs_38_3, zr_38_3, zs_38_4, zr_38_4, zs_38_8, zr_38_8, zs_38_17, zr_38_17, zs_38_18, zr_38_18, zs_38_19, zr_38_19, zs_38_22, zr_38_22, zs_38_23, zr_38_23, zs_38_25, zr_38_25, zs_38_26, zr_38_26, zs_38_28, zr_38_28, zs_38_29, zr_38_29, hZ, h.1, f0, f1, f2, f3, f4, q1, z0]) (fl (mtF (I 39) (I 40) (I 41) (I 42) w sl N c) (I 50) N, .null) trivial
  refine ⟨b'.1, ?_⟩
  simp only [ovO, nI_0] at e
  simp (decide := true) only [gN1_int, gN1_ref, gN1_null, gN1_long, gTg8_8, gTg8_14, gTg9_9, gTg9_13, gTgA_8, gTgA_9, gTgA_10, gTgA_11, gTgA_13, gTgA_14, gB01_0, gB01_1, gB01_b, List.cons_append, List.nil_append, Option.toList_some, Option.toList_none, Option.bind_some, ↓reduceIte, eq_self, not_true_eq_false, not_false_eq_true, b2i_0, b2i_1, up_eq, up_ne, up_up, up_sort, up_self, fl_at, nI_s, q_126_0, q_126_1, q_126_2, q_126_5, q_126_8, q_126_10, q_126_11, q_126_12, q_126_13, q_126_14, q_126_17, q_126_20, q_126_22, q_126_23, q_126_24, q_126_25, q_126_28, q_126_31, q_126_32, q_126_33, q_126_35, q_126_36, zk_38, zs_38_1, zr_38_1, zs_38_2, zr_38_2, zs_38_3, zr_38_3, zs_38_4, zr_38_4, zs_38_8, zr_38_8, zs_38_17, zr_38_17, zs_38_18, zr_38_18, zs_38_19, zr_38_19, zs_38_22, zr_38_22, zs_38_23, zr_38_23, zs_38_25, zr_38_25, zs_38_26, zr_38_26, zs_38_28, zr_38_28, zs_38_29, zr_38_29, hZ, hm_is hZ h (show 1 ≤ N by omega), hm_g h hc, X7_in, hin, X7_layFirst hZ h hc, X7_bits hN, Bool.true_eq_false]
  rw [e, q_126_38]
  unfold ovR
  generalize ovO (ovF (I 39) (I 40) (I 41) (I 42) w sl N c) (I 41) (nI (cntB (whoP (I 39) (I 40) (I 41) (I 42) w sl N c) N), -1, -1) N = st
  by_cases z1 : st.2.2 = -1
  · simp (decide := true) only [gN1_int, gN1_ref, gN1_null, gN1_long, gTg8_8, gTg8_14, gTg9_9, gTg9_13, gTgA_8, gTgA_9, gTgA_10, gTgA_11, gTgA_13, gTgA_14, gB01_0, gB01_1, gB01_b, List.cons_append, List.nil_append, Option.toList_some, Option.toList_none, Option.bind_some, ↓reduceIte, eq_self, not_true_eq_false, not_false_eq_true, b2i_0, b2i_1, up_eq, up_ne, up_up, up_sort, up_self, fl_at, nI_s, q_126_0, q_126_1, q_126_2, q_126_5, q_126_8, q_126_10, q_126_11, q_126_12, q_126_13, q_126_14, q_126_17, q_126_20, q_126_22, q_126_23, q_126_24, q_126_25, q_126_28, q_126_31, q_126_32, q_126_33, q_126_35, q_126_36, q_126_40, q_126_41, q_126_44, q_126_47, q_126_48, q_126_51, q_126_53, q_126_54, q_126_55, q_126_58, q_126_59, q_126_60, q_126_62, q_126_65, q_126_68, q_126_69, q_126_71, q_126_73, q_126_74, q_126_77, q_126_79, q_126_82, q_126_84, q_126_86, q_126_88, q_126_89, q_126_92, q_126_94, q_126_97, q_126_98, q_126_99, q_126_102, q_126_105, q_126_107, q_126_108, q_126_111, q_126_112, q_126_115, q_126_117, q_126_120, q_126_121, zk_38, zs_38_1, zr_38_1, zs_38_2, zr_38_2, zs_38_3, zr_38_3, zs_38_4, zr_38_4, zs_38_8, zr_38_8, zs_38_17, zr_38_17, zs_38_18, zr_38_18, zs_38_19, zr_38_19, zs_38_22, zr_38_22, zs_38_23, zr_38_23, zs_38_25, zr_38_25, zs_38_26, zr_38_26, zs_38_28, zr_38_28, zs_38_29, zr_38_29, hZ, h.1, z1, Int32.le_refl]
  · by_cases z2 : v = 0
    · simp (decide := true) only [gN1_int, gN1_ref, gN1_null, gN1_long, gTg8_8, gTg8_14, gTg9_9, gTg9_13, gTgA_8, gTgA_9, gTgA_10, gTgA_11, gTgA_13, gTgA_14, gB01_0, gB01_1, gB01_b, List.cons_append, List.nil_append, Option.toList_some, Option.toList_none, Option.bind_some, ↓reduceIte, eq_self, not_true_eq_false, not_false_eq_true, b2i_0, b2i_1, up_eq, up_ne, up_up, up_sort, up_self, fl_at, nI_s, q_126_0, q_126_1, q_126_2, q_126_5, q_126_8, q_126_10, q_126_11, q_126_12, q_126_13, q_126_14, q_126_17, q_126_20, q_126_22, q_126_23, q_126_24, q_126_25, q_126_28, q_126_31, q_126_32, q_126_33, q_126_35, q_126_36, q_126_40, q_126_41, q_126_44, q_126_47, q_126_48, q_126_51, q_126_53, q_126_54, q_126_55, q_126_58, q_126_59, q_126_60, q_126_62, q_126_65, q_126_68, q_126_69, q_126_71, q_126_73, q_126_74, q_126_77, q_126_79, q_126_82, q_126_84, q_126_86, q_126_88, q_126_89, q_126_92, q_126_94, q_126_97, q_126_98, q_126_99, q_126_102, q_126_105, q_126_107, q_126_108, q_126_111, q_126_112, q_126_115, q_126_117, q_126_120, q_126_121, zk_38, zs_38_1, zr_38_1, zs_38_2, zr_38_2, zs_38_3, zr_38_3, zs_38_4, zr_38_4, zs_38_8, zr_38_8, zs_38_17, zr_38_17, zs_38_18, zr_38_18, zs_38_19, zr_38_19, zs_38_22, zr_38_22, zs_38_23, zr_38_23, zs_38_25, zr_38_25, zs_38_26, zr_38_26, zs_38_28, zr_38_28, zs_38_29, zr_38_29, hZ, h.1, z1, z2, Int32.le_refl]
    · simp (decide := true) only [gN1_int, gN1_ref, gN1_null, gN1_long, gTg8_8, gTg8_14, gTg9_9, gTg9_13, gTgA_8, gTgA_9, gTgA_10, gTgA_11, gTgA_13, gTgA_14, gB01_0, gB01_1, gB01_b, List.cons_append, List.nil_append, Option.toList_some, Option.toList_none, Option.bind_some, ↓reduceIte, eq_self, not_true_eq_false, not_false_eq_true, b2i_0, b2i_1, up_eq, up_ne, up_up, up_sort, up_self, fl_at, nI_s, q_126_0, q_126_1, q_126_2, q_126_5, q_126_8, q_126_10, q_126_11, q_126_12, q_126_13, q_126_14, q_126_17, q_126_20, q_126_22, q_126_23, q_126_24, q_126_25, q_126_28, q_126_31, q_126_32, q_126_33, q_126_35, q_126_36, q_126_40, q_126_41, q_126_44, q_126_47, q_126_48, q_126_51, q_126_53, q_126_54, q_126_55, q_126_58, q_126_59, q_126_60, q_126_62, q_126_65, q_126_68, q_126_69, q_126_71, q_126_73, q_126_74, q_126_77, q_126_79, q_126_82, q_126_84, q_126_86, q_126_88, q_126_89, q_126_92, q_126_94, q_126_97, q_126_98, q_126_99, q_126_102, q_126_105, q_126_107, q_126_108, q_126_111, q_126_112, q_126_115, q_126_117, q_126_120, q_126_121, zk_38, zs_38_1, zr_38_1, zs_38_2, zr_38_2, zs_38_3, zr_38_3, zs_38_4, zr_38_4, zs_38_8, zr_38_8, zs_38_17, zr_38_17, zs_38_18, zr_38_18, zs_38_19, zr_38_19, zs_38_22, zr_38_22, zs_38_23, zr_38_23, zs_38_25, zr_38_25, zs_38_26, zr_38_26, zs_38_28, zr_38_28, zs_38_29, zr_38_29, hZ, h.1, z1, z2, Int32.le_refl]
end
