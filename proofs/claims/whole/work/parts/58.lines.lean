/-! Text: lines -/
section
variable {Z : gZ} {I : gI} {J : gJ}
theorem tf_0 {s e x : Int32} : TF I (va_up I 1 (va_up (va_up (va_up (I 1) 3 (s)) 4 (e)) 5 (x))) := ⟨fun a h1 _ => up_ne h1, by simp (decide := true) only [up_eq, up_ne], by simp (decide := true) only [up_eq, up_ne]⟩
theorem X4_readAlone (hZ : St Z) {T e G : Nat} (hT : I 1 1 = nI T) (hT2 : T ≤ 200) (he2 : e ≤ T) (hG : I 8 4 = nI G) (hG1 : 1 ≤ G) (hG2 : G ≤ 10) (s0 x0 : Int32) : ∃ I', g_at 40 0 [.ref 1, .ref 8] [] Z (va_up I 1 (va_up (va_up (va_up (I 1) 3 (s0)) 4 (nI e)) 5 (x0))) J = some (some (.int (b2i (okN (I 2) T e 0 (nI G - 1)))), Z, I', J) ∧ TF I I' ∧ (okN (I 2) T e 0 (nI G - 1) = true → I' 1 4 = nI (tkN (I 2) T e) ∧ DD I' = dl (DD I) (2, nuV (I 2) T e, 0, 0)) ∧ (okN (I 2) T e 0 (nI G - 1) = false → I' 1 3 = nI (tkS (I 2) T e)) := by
  obtain ⟨x, r1, r2⟩ := X4_nn (J := J) hZ hT hT2 he2 s0 x0 0 (nI G - 1)
  by_cases q : okN (I 2) T e 0 (nI G - 1) = true
  · have ex := r2 q
    obtain ⟨a, ha, ea⟩ := okN_ix hG1 hG2 q
    obtain ⟨f0, f1, f2⟩ := ixs (j := a) (by omega)
    have f4 : a < 10 := by omega
    rw [ex, ea, q] at r1
    rw [q, ea]
    refine ⟨va_up (va_up (va_up I 1 (va_up (va_up (va_up (I 1) 3 (nI (tkS (I 2) T e))) 4 (nI (tkN (I 2) T e))) 5 (nI a))) 9 (va_up (I 9) a (-1))) 10 (va_up (I 10) a 0), ?_, ⟨fun b h1 h2 => ?_, ?_, ?_⟩, fun _ => ⟨?_, ?_⟩, fun z => absurd z (by decide)⟩
    · simp (decide := true) only [gN1_int, gN1_ref, gN1_null, gN1_long, gTg8_8, gTg8_14, gTg9_9, gTg9_13, gTgA_8, gTgA_9, gTgA_10, gTgA_11, gTgA_13, gTgA_14, gB01_0, gB01_1, gB01_b, List.cons_append, List.nil_append, Option.toList_some, Option.toList_none, Option.bind_some, ↓reduceIte, eq_self, not_true_eq_false, not_false_eq_true, b2i_0, b2i_1, up_eq, up_ne, up_up, up_sort, up_self, fl_at, nI_s, q_40_0, q_40_1, q_40_2, q_40_3, q_40_6, q_40_7, q_40_8, q_40_11, q_40_14, q_40_15, q_40_16, q_40_17, q_40_20, q_40_21, q_40_24, q_40_25, q_40_26, q_40_27, q_40_30, q_40_31, q_40_34, q_40_35, q_40_36, q_40_37, zk_1, zk_8, zk_9, zk_10, zs_1_0, zr_1_0, zs_8_0, zr_8_0, zs_8_1, zr_8_1, zs_8_2, zr_8_2, zs_8_3, zr_8_3, hZ, hG, r1, f0, f1, f2, f4, Bool.true_eq_false]
      rfl
    · rw [up_ne (by omega), up_ne (by omega), up_ne h1]
    · simp (decide := true) only [up_eq, up_ne]
    · simp (decide := true) only [up_eq, up_ne]
    · simp (decide := true) only [up_eq, up_ne]
    · unfold DD dl
      simp (decide := true) only [up_eq, up_ne, f2, if_true, if_false]
  · have q' : okN (I 2) T e 0 (nI G - 1) = false := by simpa using q
    rw [q'] at r1
    rw [q']
    refine ⟨va_up I 1 (va_up (va_up (va_up (I 1) 3 (nI (tkS (I 2) T e))) 4 (nI (tkN (I 2) T e))) 5 (x)), ?_, tf_0, fun z => absurd z (by decide), fun _ => ?_⟩
    · simp (decide := true) only [gN1_int, gN1_ref, gN1_null, gN1_long, gTg8_8, gTg8_14, gTg9_9, gTg9_13, gTgA_8, gTgA_9, gTgA_10, gTgA_11, gTgA_13, gTgA_14, gB01_0, gB01_1, gB01_b, List.cons_append, List.nil_append, Option.toList_some, Option.toList_none, Option.bind_some, ↓reduceIte, eq_self, not_true_eq_false, not_false_eq_true, b2i_0, b2i_1, up_eq, up_ne, up_up, up_sort, up_self, fl_at, nI_s, q_40_0, q_40_1, q_40_2, q_40_3, q_40_6, q_40_7, q_40_8, q_40_11, q_40_14, q_40_15, q_40_16, q_40_17, q_40_20, q_40_21, q_40_24, q_40_25, q_40_26, q_40_27, q_40_30, q_40_31, q_40_34, q_40_35, q_40_36, q_40_37, zk_1, zk_8, zk_9, zk_10, zs_1_0, zr_1_0, zs_8_0, zr_8_0, zs_8_1, zr_8_1, zs_8_2, zr_8_2, zs_8_3, zr_8_3, hZ, hG, r1]
      rfl
    · simp (decide := true) only [up_eq, up_ne]
theorem X4_readCloister (hZ : St Z) {T e G : Nat} (hT : I 1 1 = nI T) (hT2 : T ≤ 200) (he2 : e ≤ T) (hG : I 8 4 = nI G) (hG1 : 1 ≤ G) (hG2 : G ≤ 10) (s0 x0 : Int32) : ∃ I', g_at 38 0 [.ref 1, .ref 8] [] Z (va_up I 1 (va_up (va_up (va_up (I 1) 3 (s0)) 4 (nI e)) 5 (x0))) J = some (some (.int (b2i (okN (I 2) T e 2 10))), Z, I', J) ∧ TF I I' ∧ (okN (I 2) T e 2 10 = true → I' 1 4 = nI (tkN (I 2) T e) ∧ DD I' = dl (DD I) (0, nuV (I 2) T e, 0, 0)) ∧ (okN (I 2) T e 2 10 = false → I' 1 3 = nI (tkS (I 2) T e)) := by
  obtain ⟨x, r1, r2⟩ := X4_nn (J := J) hZ hT hT2 he2 s0 x0 2 10
  by_cases q : okN (I 2) T e 2 10 = true
  · have ex := r2 q
    rw [ex, q] at r1
    rw [q]
    refine ⟨va_up (va_up (va_up (va_up (va_up (va_up I 1 (va_up (va_up (va_up (I 1) 3 (nI (tkS (I 2) T e))) 4 (nI (tkN (I 2) T e))) 5 (nuV (I 2) T e))) 8 (va_up (va_up (I 8) 4 (nuV (I 2) T e)) 5 0)) 9 (fl (fun _ => -1) (I 9) 10)) 10 (fl (fun _ => 0) (I 10) 10)) 11 (fl (fun _ => 0) (I 11) 10)) 12 (fl (fun _ => 1) (I 12) 10), ?_, ⟨fun b h1 h2 => ?_, ?_, ?_⟩, fun _ => ⟨?_, ?_⟩, fun z => absurd z (by decide)⟩
    · simp (decide := true) only [gN1_int, gN1_ref, gN1_null, gN1_long, gTg8_8, gTg8_14, gTg9_9, gTg9_13, gTgA_8, gTgA_9, gTgA_10, gTgA_11, gTgA_13, gTgA_14, gB01_0, gB01_1, gB01_b, List.cons_append, List.nil_append, Option.toList_some, Option.toList_none, Option.bind_some, ↓reduceIte, eq_self, not_true_eq_false, not_false_eq_true, b2i_0, b2i_1, up_eq, up_ne, up_up, up_sort, up_self, fl_at, nI_s, q_38_0, q_38_1, q_38_2, q_38_4, q_38_7, q_38_10, q_38_11, q_38_12, q_38_13, q_38_14, q_38_17, q_38_20, q_38_21, zk_1, zk_8, zk_9, zk_10, zk_11, zk_12, zs_1_0, zr_1_0, zs_8_0, zr_8_0, zs_8_1, zr_8_1, zs_8_2, zr_8_2, zs_8_3, zr_8_3, hZ, r1, X0_found_8 hZ, Bool.true_eq_false]
      rfl
    · rw [up_ne (by omega), up_ne (by omega), up_ne (by omega), up_ne (by omega), up_ne (by omega), up_ne h1]
    · simp (decide := true) only [up_eq, up_ne]
    · simp (decide := true) only [up_eq, up_ne]
    · simp (decide := true) only [up_eq, up_ne]
    · unfold DD dl
      simp (decide := true) only [up_eq, up_ne, if_true, if_false]
  · have q' : okN (I 2) T e 2 10 = false := by simpa using q
    rw [q'] at r1
    rw [q']
    refine ⟨va_up I 1 (va_up (va_up (va_up (I 1) 3 (nI (tkS (I 2) T e))) 4 (nI (tkN (I 2) T e))) 5 (x)), ?_, tf_0, fun z => absurd z (by decide), fun _ => ?_⟩
    · simp (decide := true) only [gN1_int, gN1_ref, gN1_null, gN1_long, gTg8_8, gTg8_14, gTg9_9, gTg9_13, gTgA_8, gTgA_9, gTgA_10, gTgA_11, gTgA_13, gTgA_14, gB01_0, gB01_1, gB01_b, List.cons_append, List.nil_append, Option.toList_some, Option.toList_none, Option.bind_some, ↓reduceIte, eq_self, not_true_eq_false, not_false_eq_true, b2i_0, b2i_1, up_eq, up_ne, up_up, up_sort, up_self, fl_at, nI_s, q_38_0, q_38_1, q_38_2, q_38_4, q_38_7, q_38_10, q_38_11, q_38_12, q_38_13, q_38_14, q_38_17, q_38_20, q_38_21, zk_1, zk_8, zk_9, zk_10, zs_1_0, zr_1_0, zs_8_0, zr_8_0, zs_8_1, zr_8_1, zs_8_2, zr_8_2, zs_8_3, zr_8_3, hZ, r1]
      rfl
    · simp (decide := true) only [up_eq, up_ne]
theorem X4_readMonk (hZ : St Z) {T e G : Nat} (hT : I 1 1 = nI T) (hT2 : T ≤ 200) (he2 : e ≤ T) (hG : I 8 4 = nI G) (hG1 : 1 ≤ G) (hG2 : G ≤ 10) (s0 x0 : Int32) {k : Nat} (hk : 3 ≤ k ∧ k < 7) : ∃ I', g_at 41 0 [.ref 1, .ref 8, .int (nI (k - 3)), .null] [] Z (va_up I 1 (va_up (va_up (va_up (I 1) 3 (s0)) 4 (nI e)) 5 (x0))) J = some (some (.int (b2i (okN (I 2) T e 0 (nI G - 1) && okN (I 2) T (tkN (I 2) T e) 1 20))), Z, I', J) ∧ TF I I' ∧ (okN (I 2) T e 0 (nI G - 1) = true → okN (I 2) T (tkN (I 2) T e) 1 20 = true → I' 1 4 = nI (tkN (I 2) T (tkN (I 2) T e)) ∧ DD I' = dl (DD I) (k, nuV (I 2) T e, nuV (I 2) T (tkN (I 2) T e), 0)) ∧ (okN (I 2) T e 0 (nI G - 1) = false → I' 1 3 = nI (tkS (I 2) T e)) ∧ (okN (I 2) T e 0 (nI G - 1) = true → okN (I 2) T (tkN (I 2) T e) 1 20 = false → I' 1 3 = nI (tkS (I 2) T (tkN (I 2) T e))) := by
  obtain ⟨x, r1, r2⟩ := X4_nn (J := J) hZ hT hT2 he2 s0 x0 0 (nI G - 1)
  obtain ⟨-, -, -, b3⟩ := tk_le (I 2) he2
  obtain ⟨x2, r3, r4⟩ := X4_nn (J := J) hZ hT hT2 b3 (nI (tkS (I 2) T e)) x 1 20
  by_cases q : okN (I 2) T e 0 (nI G - 1) = true
  · have ex := r2 q
    obtain ⟨a, ha, ea⟩ := okN_ix hG1 hG2 q
    obtain ⟨f0, f1, f2⟩ := ixs (j := a) (by omega)
    have f4 : a < 10 := by omega
    rw [ex, ea, q] at r1
    rw [ex, ea] at r3
    rw [q, ea]
    by_cases q2 : okN (I 2) T (tkN (I 2) T e) 1 20 = true
    · have ex2 := r4 q2
      rw [ex2, q2] at r3
      rw [q2]
      refine ⟨va_up (va_up (va_up I 1 (va_up (va_up (va_up (I 1) 3 (nI (tkS (I 2) T (tkN (I 2) T e)))) 4 (nI (tkN (I 2) T (tkN (I 2) T e)))) 5 (nuV (I 2) T (tkN (I 2) T e)))) 11 (va_up (I 11) a (nI (k - 3)))) 12 (va_up (I 12) a (nuV (I 2) T (tkN (I 2) T e))), ?_, ⟨fun b h1 h2 => ?_, ?_, ?_⟩, fun _ _ => ⟨?_, ?_⟩, fun z => absurd z (by decide), fun _ z => absurd z (by decide)⟩
      · simp (decide := true) only [gN1_int, gN1_ref, gN1_null, gN1_long, gTg8_8, gTg8_14, gTg9_9, gTg9_13, gTgA_8, gTgA_9, gTgA_10, gTgA_11, gTgA_13, gTgA_14, gB01_0, gB01_1, gB01_b, List.cons_append, List.nil_append, Option.toList_some, Option.toList_none, Option.bind_some, ↓reduceIte, eq_self, not_true_eq_false, not_false_eq_true, b2i_0, b2i_1, up_eq, up_ne, up_up, up_sort, up_self, fl_at, nI_s, q_41_0, q_41_1, q_41_2, q_41_3, q_41_6, q_41_7, q_41_8, q_41_11, q_41_14, q_41_15, q_41_16, q_41_17, q_41_20, q_41_21, q_41_22, q_41_23, q_41_25, q_41_28, q_41_31, q_41_32, q_41_33, q_41_34, q_41_37, q_41_38, q_41_39, q_41_40, q_41_41, q_41_44, q_41_45, q_41_46, q_41_49, q_41_50, q_41_51, zk_1, zk_8, zk_9, zk_10, zk_11, zk_12, zs_1_0, zr_1_0, zs_8_0, zr_8_0, zs_8_1, zr_8_1, zs_8_2, zr_8_2, zs_8_3, zr_8_3, hZ, hG, r1, r3, f0, f1, f2, f4, Bool.true_eq_false]
        rfl
      · rw [up_ne (by omega), up_ne (by omega), up_ne h1]
      · simp (decide := true) only [up_eq, up_ne]
      · simp (decide := true) only [up_eq, up_ne]
      · simp (decide := true) only [up_eq, up_ne]
      · unfold DD dl
        simp (decide := true) only [up_eq, up_ne, f2, show ¬ k = 0 from by omega, show ¬ k = 1 from by omega, show ¬ k = 2 from by omega, hk.2, if_true, if_false]
    · have q2' : okN (I 2) T (tkN (I 2) T e) 1 20 = false := by simpa using q2
      rw [q2'] at r3
      rw [q2']
      refine ⟨va_up I 1 (va_up (va_up (va_up (I 1) 3 (nI (tkS (I 2) T (tkN (I 2) T e)))) 4 (nI (tkN (I 2) T (tkN (I 2) T e)))) 5 (x2)), ?_, tf_0, fun _ z => absurd z (by decide), fun z => absurd z (by decide), fun _ _ => ?_⟩
      · simp (decide := true) only [gN1_int, gN1_ref, gN1_null, gN1_long, gTg8_8, gTg8_14, gTg9_9, gTg9_13, gTgA_8, gTgA_9, gTgA_10, gTgA_11, gTgA_13, gTgA_14, gB01_0, gB01_1, gB01_b, List.cons_append, List.nil_append, Option.toList_some, Option.toList_none, Option.bind_some, ↓reduceIte, eq_self, not_true_eq_false, not_false_eq_true, b2i_0, b2i_1, up_eq, up_ne, up_up, up_sort, up_self, fl_at, nI_s, q_41_0, q_41_1, q_41_2, q_41_3, q_41_6, q_41_7, q_41_8, q_41_11, q_41_14, q_41_15, q_41_16, q_41_17, q_41_20, q_41_21, q_41_22, q_41_23, q_41_25, q_41_28, q_41_31, q_41_32, q_41_33, q_41_34, q_41_37, q_41_38, q_41_39, q_41_40, q_41_41, q_41_44, q_41_45, q_41_46, q_41_49, q_41_50, q_41_51, zk_1, zk_8, zk_9, zk_10, zk_11, zk_12, zs_1_0, zr_1_0, zs_8_0, zr_8_0, zs_8_1, zr_8_1, zs_8_2, zr_8_2, zs_8_3, zr_8_3, hZ, hG, r1, r3, Bool.true_eq_false]
        rfl
      · simp (decide := true) only [up_eq, up_ne]
  · have q' : okN (I 2) T e 0 (nI G - 1) = false := by simpa using q
    rw [q'] at r1
    rw [q']
    refine ⟨va_up I 1 (va_up (va_up (va_up (I 1) 3 (nI (tkS (I 2) T e))) 4 (nI (tkN (I 2) T e))) 5 (x)), ?_, tf_0, fun z => absurd z (by decide), fun _ => ?_, fun z => absurd z (by decide)⟩
    · simp (decide := true) only [gN1_int, gN1_ref, gN1_null, gN1_long, gTg8_8, gTg8_14, gTg9_9, gTg9_13, gTgA_8, gTgA_9, gTgA_10, gTgA_11, gTgA_13, gTgA_14, gB01_0, gB01_1, gB01_b, List.cons_append, List.nil_append, Option.toList_some, Option.toList_none, Option.bind_some, ↓reduceIte, eq_self, not_true_eq_false, not_false_eq_true, b2i_0, b2i_1, up_eq, up_ne, up_up, up_sort, up_self, fl_at, nI_s, q_41_0, q_41_1, q_41_2, q_41_3, q_41_6, q_41_7, q_41_8, q_41_11, q_41_14, q_41_15, q_41_16, q_41_17, q_41_20, q_41_21, q_41_22, q_41_23, q_41_25, q_41_28, q_41_31, q_41_32, q_41_33, q_41_34, q_41_37, q_41_38, q_41_39, q_41_40, q_41_41, q_41_44, q_41_45, q_41_46, q_41_49, q_41_50, q_41_51, zk_1, zk_8, zk_9, zk_10, zs_1_0, zr_1_0, zs_8_0, zr_8_0, zs_8_1, zr_8_1, zs_8_2, zr_8_2, zs_8_3, zr_8_3, hZ, hG, r1]
      rfl
    · simp (decide := true) only [up_eq, up_ne]
theorem X4_readHears (hZ : St Z) {T e G : Nat} (hT : I 1 1 = nI T) (hT2 : T ≤ 200) (he2 : e ≤ T) (hG : I 8 4 = nI G) (hG1 : 1 ≤ G) (hG2 : G ≤ 10) (s0 x0 : Int32) : ∃ I', g_at 39 0 [.ref 1, .ref 8, .null, .null] [] Z (va_up I 1 (va_up (va_up (va_up (I 1) 3 (s0)) 4 (nI e)) 5 (x0))) J = some (some (.int (b2i (okN (I 2) T e 0 (nI G - 1) && (okN (I 2) T (tkN (I 2) T e) 0 (nI G - 1) && !decide (nuV (I 2) T (tkN (I 2) T e) = nuV (I 2) T e)) && okN (I 2) T (tkN (I 2) T (tkN (I 2) T e)) 1 9))), Z, I', J) ∧ TF I I' ∧ (okN (I 2) T e 0 (nI G - 1) = true → okN (I 2) T (tkN (I 2) T e) 0 (nI G - 1) = true → ¬ nuV (I 2) T (tkN (I 2) T e) = nuV (I 2) T e → okN (I 2) T (tkN (I 2) T (tkN (I 2) T e)) 1 9 = true → I' 1 4 = nI (tkN (I 2) T (tkN (I 2) T (tkN (I 2) T e))) ∧ DD I' = dl (DD I) (1, nuV (I 2) T e, nuV (I 2) T (tkN (I 2) T e), nuV (I 2) T (tkN (I 2) T (tkN (I 2) T e)))) ∧ (okN (I 2) T e 0 (nI G - 1) = false → I' 1 3 = nI (tkS (I 2) T e)) ∧ (okN (I 2) T e 0 (nI G - 1) = true → (okN (I 2) T (tkN (I 2) T e) 0 (nI G - 1) = false ∨ nuV (I 2) T (tkN (I 2) T e) = nuV (I 2) T e) → I' 1 3 = nI (tkS (I 2) T (tkN (I 2) T e))) ∧ (okN (I 2) T e 0 (nI G - 1) = true → okN (I 2) T (tkN (I 2) T e) 0 (nI G - 1) = true → ¬ nuV (I 2) T (tkN (I 2) T e) = nuV (I 2) T e → okN (I 2) T (tkN (I 2) T (tkN (I 2) T e)) 1 9 = false → I' 1 3 = nI (tkS (I 2) T (tkN (I 2) T (tkN (I 2) T e)))) := by
  obtain ⟨x, r1, r2⟩ := X4_nn (J := J) hZ hT hT2 he2 s0 x0 0 (nI G - 1)
  obtain ⟨-, -, -, b3⟩ := tk_le (I 2) he2
  obtain ⟨x2, r3, r4⟩ := X4_nn (J := J) hZ hT hT2 b3 (nI (tkS (I 2) T e)) x 0 (nI G - 1)
  obtain ⟨-, -, -, b4⟩ := tk_le (I 2) b3
  obtain ⟨x3, r5, r6⟩ := X4_nn (J := J) hZ hT hT2 b4 (nI (tkS (I 2) T (tkN (I 2) T e))) x2 1 9
  by_cases q : okN (I 2) T e 0 (nI G - 1) = true
  · have ex := r2 q
    obtain ⟨a, ha, ea⟩ := okN_ix hG1 hG2 q
    obtain ⟨f0, f1, f2⟩ := ixs (j := a) (by omega)
    have f4 : a < 10 := by omega
    rw [ex, ea, q] at r1
    rw [ex, ea] at r3
    rw [q, ea]
    by_cases q2 : okN (I 2) T (tkN (I 2) T e) 0 (nI G - 1) = true
    · have ex2 := r4 q2
      rw [ex2, q2] at r3
      rw [ex2] at r5
      rw [q2]
      by_cases q3 : nuV (I 2) T (tkN (I 2) T e) = nI a
      · rw [q3] at r3
        refine ⟨va_up I 1 (va_up (va_up (va_up (I 1) 3 (nI (tkS (I 2) T (tkN (I 2) T e)))) 4 (nI (tkN (I 2) T (tkN (I 2) T e)))) 5 (nI a)), ?_, tf_0, fun _ _ z => absurd q3 z, fun z => absurd z (by decide), fun _ _ => ?_, fun _ _ z => absurd q3 z⟩
        · simp (decide := true) only [gN1_int, gN1_ref, gN1_null, gN1_long, gTg8_8, gTg8_14, gTg9_9, gTg9_13, gTgA_8, gTgA_9, gTgA_10, gTgA_11, gTgA_13, gTgA_14, gB01_0, gB01_1, gB01_b, List.cons_append, List.nil_append, Option.toList_some, Option.toList_none, Option.bind_some, ↓reduceIte, eq_self, not_true_eq_false, not_false_eq_true, b2i_0, b2i_1, up_eq, up_ne, up_up, up_sort, up_self, fl_at, nI_s, q_39_0, q_39_1, q_39_2, q_39_3, q_39_6, q_39_7, q_39_8, q_39_11, q_39_14, q_39_15, q_39_16, q_39_17, q_39_20, q_39_21, q_39_22, q_39_23, q_39_24, q_39_27, q_39_28, q_39_29, q_39_32, q_39_35, q_39_36, q_39_39, q_39_40, q_39_43, q_39_44, q_39_45, q_39_46, q_39_49, q_39_50, q_39_51, q_39_52, q_39_54, q_39_57, q_39_60, q_39_61, q_39_62, q_39_63, q_39_66, q_39_67, q_39_68, q_39_69, q_39_70, q_39_73, q_39_74, q_39_75, q_39_78, q_39_79, q_39_80, zk_1, zk_8, zk_9, zk_10, zs_1_0, zr_1_0, zs_8_0, zr_8_0, zs_8_1, zr_8_1, zs_8_2, zr_8_2, zs_8_3, zr_8_3, hZ, hG, r1, r3, q3, Bool.true_eq_false, decide_true, Bool.not_true, Bool.and_false, Bool.false_and]
          rfl
        · simp (decide := true) only [up_eq, up_ne]
      · by_cases q4 : okN (I 2) T (tkN (I 2) T (tkN (I 2) T e)) 1 9 = true
        · have ex3 := r6 q4
          rw [ex3, q4] at r5
          rw [q4]
          refine ⟨va_up (va_up (va_up I 1 (va_up (va_up (va_up (I 1) 3 (nI (tkS (I 2) T (tkN (I 2) T (tkN (I 2) T e))))) 4 (nI (tkN (I 2) T (tkN (I 2) T (tkN (I 2) T e))))) 5 (nuV (I 2) T (tkN (I 2) T (tkN (I 2) T e))))) 9 (va_up (I 9) a (nuV (I 2) T (tkN (I 2) T e)))) 10 (va_up (I 10) a (nuV (I 2) T (tkN (I 2) T (tkN (I 2) T e)))), ?_, ⟨fun b h1 h2 => ?_, ?_, ?_⟩, fun _ _ _ _ => ⟨?_, ?_⟩, fun z => absurd z (by decide), fun _ z => absurd z (fun w => w.elim (by decide) q3), fun _ _ _ z => absurd z (by decide)⟩
          · simp (decide := true) only [gN1_int, gN1_ref, gN1_null, gN1_long, gTg8_8, gTg8_14, gTg9_9, gTg9_13, gTgA_8, gTgA_9, gTgA_10, gTgA_11, gTgA_13, gTgA_14, gB01_0, gB01_1, gB01_b, List.cons_append, List.nil_append, Option.toList_some, Option.toList_none, Option.bind_some, ↓reduceIte, eq_self, not_true_eq_false, not_false_eq_true, b2i_0, b2i_1, up_eq, up_ne, up_up, up_sort, up_self, fl_at, nI_s, q_39_0, q_39_1, q_39_2, q_39_3, q_39_6, q_39_7, q_39_8, q_39_11, q_39_14, q_39_15, q_39_16, q_39_17, q_39_20, q_39_21, q_39_22, q_39_23, q_39_24, q_39_27, q_39_28, q_39_29, q_39_32, q_39_35, q_39_36, q_39_39, q_39_40, q_39_43, q_39_44, q_39_45, q_39_46, q_39_49, q_39_50, q_39_51, q_39_52, q_39_54, q_39_57, q_39_60, q_39_61, q_39_62, q_39_63, q_39_66, q_39_67, q_39_68, q_39_69, q_39_70, q_39_73, q_39_74, q_39_75, q_39_78, q_39_79, q_39_80, zk_1, zk_8, zk_9, zk_10, zs_1_0, zr_1_0, zs_8_0, zr_8_0, zs_8_1, zr_8_1, zs_8_2, zr_8_2, zs_8_3, zr_8_3, hZ, hG, r1, r3, r5, q3, f0, f1, f2, f4, Bool.true_eq_false, decide_false, Bool.not_false, Bool.and_true]
            rfl
          · rw [up_ne (by omega), up_ne (by omega), up_ne h1]
          · simp (decide := true) only [up_eq, up_ne]
          · simp (decide := true) only [up_eq, up_ne]
          · simp (decide := true) only [up_eq, up_ne]
          · unfold DD dl
            simp (decide := true) only [up_eq, up_ne, f2, if_true, if_false]
        · have q4' : okN (I 2) T (tkN (I 2) T (tkN (I 2) T e)) 1 9 = false := by simpa using q4
          rw [q4'] at r5
          rw [q4']
          refine ⟨va_up I 1 (va_up (va_up (va_up (I 1) 3 (nI (tkS (I 2) T (tkN (I 2) T (tkN (I 2) T e))))) 4 (nI (tkN (I 2) T (tkN (I 2) T (tkN (I 2) T e))))) 5 (x3)), ?_, tf_0, fun _ _ _ z => absurd z (by decide), fun z => absurd z (by decide), fun _ z => absurd z (fun w => w.elim (by decide) q3), fun _ _ _ _ => ?_⟩
          · simp (decide := true) only [gN1_int, gN1_ref, gN1_null, gN1_long, gTg8_8, gTg8_14, gTg9_9, gTg9_13, gTgA_8, gTgA_9, gTgA_10, gTgA_11, gTgA_13, gTgA_14, gB01_0, gB01_1, gB01_b, List.cons_append, List.nil_append, Option.toList_some, Option.toList_none, Option.bind_some, ↓reduceIte, eq_self, not_true_eq_false, not_false_eq_true, b2i_0, b2i_1, up_eq, up_ne, up_up, up_sort, up_self, fl_at, nI_s, q_39_0, q_39_1, q_39_2, q_39_3, q_39_6, q_39_7, q_39_8, q_39_11, q_39_14, q_39_15, q_39_16, q_39_17, q_39_20, q_39_21, q_39_22, q_39_23, q_39_24, q_39_27, q_39_28, q_39_29, q_39_32, q_39_35, q_39_36, q_39_39, q_39_40, q_39_43, q_39_44, q_39_45, q_39_46, q_39_49, q_39_50, q_39_51, q_39_52, q_39_54, q_39_57, q_39_60, q_39_61, q_39_62, q_39_63, q_39_66, q_39_67, q_39_68, q_39_69, q_39_70, q_39_73, q_39_74, q_39_75, q_39_78, q_39_79, q_39_80, zk_1, zk_8, zk_9, zk_10, zs_1_0, zr_1_0, zs_8_0, zr_8_0, zs_8_1, zr_8_1, zs_8_2, zr_8_2, zs_8_3, zr_8_3, hZ, hG, r1, r3, r5, q3, Bool.true_eq_false, decide_false, Bool.not_false, Bool.and_true, Bool.and_false]
            rfl
          · simp (decide := true) only [up_eq, up_ne]
    · have q2' : okN (I 2) T (tkN (I 2) T e) 0 (nI G - 1) = false := by simpa using q2
      rw [q2'] at r3
      rw [q2']
      refine ⟨va_up I 1 (va_up (va_up (va_up (I 1) 3 (nI (tkS (I 2) T (tkN (I 2) T e)))) 4 (nI (tkN (I 2) T (tkN (I 2) T e)))) 5 (x2)), ?_, tf_0, fun _ z => absurd z (by decide), fun z => absurd z (by decide), fun _ _ => ?_, fun _ z => absurd z (by decide)⟩
      · simp (decide := true) only [gN1_int, gN1_ref, gN1_null, gN1_long, gTg8_8, gTg8_14, gTg9_9, gTg9_13, gTgA_8, gTgA_9, gTgA_10, gTgA_11, gTgA_13, gTgA_14, gB01_0, gB01_1, gB01_b, List.cons_append, List.nil_append, Option.toList_some, Option.toList_none, Option.bind_some, ↓reduceIte, eq_self, not_true_eq_false, not_false_eq_true, b2i_0, b2i_1, up_eq, up_ne, up_up, up_sort, up_self, fl_at, nI_s, q_39_0, q_39_1, q_39_2, q_39_3, q_39_6, q_39_7, q_39_8, q_39_11, q_39_14, q_39_15, q_39_16, q_39_17, q_39_20, q_39_21, q_39_22, q_39_23, q_39_24, q_39_27, q_39_28, q_39_29, q_39_32, q_39_35, q_39_36, q_39_39, q_39_40, q_39_43, q_39_44, q_39_45, q_39_46, q_39_49, q_39_50, q_39_51, q_39_52, q_39_54, q_39_57, q_39_60, q_39_61, q_39_62, q_39_63, q_39_66, q_39_67, q_39_68, q_39_69, q_39_70, q_39_73, q_39_74, q_39_75, q_39_78, q_39_79, q_39_80, zk_1, zk_8, zk_9, zk_10, zs_1_0, zr_1_0, zs_8_0, zr_8_0, zs_8_1, zr_8_1, zs_8_2, zr_8_2, zs_8_3, zr_8_3, hZ, hG, r1, r3, Bool.true_eq_false, Bool.and_false, Bool.false_and]
        rfl
      · simp (decide := true) only [up_eq, up_ne]
  · have q' : okN (I 2) T e 0 (nI G - 1) = false := by simpa using q
    rw [q'] at r1
    rw [q']
    refine ⟨va_up I 1 (va_up (va_up (va_up (I 1) 3 (nI (tkS (I 2) T e))) 4 (nI (tkN (I 2) T e))) 5 (x)), ?_, tf_0, fun z => absurd z (by decide), fun _ => ?_, fun z => absurd z (by decide), fun z => absurd z (by decide)⟩
    · simp (decide := true) only [gN1_int, gN1_ref, gN1_null, gN1_long, gTg8_8, gTg8_14, gTg9_9, gTg9_13, gTgA_8, gTgA_9, gTgA_10, gTgA_11, gTgA_13, gTgA_14, gB01_0, gB01_1, gB01_b, List.cons_append, List.nil_append, Option.toList_some, Option.toList_none, Option.bind_some, ↓reduceIte, eq_self, not_true_eq_false, not_false_eq_true, b2i_0, b2i_1, up_eq, up_ne, up_up, up_sort, up_self, fl_at, nI_s, q_39_0, q_39_1, q_39_2, q_39_3, q_39_6, q_39_7, q_39_8, q_39_11, q_39_14, q_39_15, q_39_16, q_39_17, q_39_20, q_39_21, q_39_22, q_39_23, q_39_24, q_39_27, q_39_28, q_39_29, q_39_32, q_39_35, q_39_36, q_39_39, q_39_40, q_39_43, q_39_44, q_39_45, q_39_46, q_39_49, q_39_50, q_39_51, q_39_52, q_39_54, q_39_57, q_39_60, q_39_61, q_39_62, q_39_63, q_39_66, q_39_67, q_39_68, q_39_69, q_39_70, q_39_73, q_39_74, q_39_75, q_39_78, q_39_79, q_39_80, zk_1, zk_8, zk_9, zk_10, zs_1_0, zr_1_0, zs_8_0, zr_8_0, zs_8_1, zr_8_1, zs_8_2, zr_8_2, zs_8_3, zr_8_3, hZ, hG, r1, Bool.false_and]
      rfl
    · simp (decide := true) only [up_eq, up_ne]
end
