/-! Text: readLine, readOnto -/
section
variable {Z : gZ} {I : gI} {J : gJ}
theorem b_ft {p : Prop} (h : false = true) : p := absurd h (by decide)
theorem b_tf {p : Prop} (h : true = false) : p := absurd h (by decide)
theorem wdN_le {t : Nat → Int32} {T s e : Nat} : wdN t T s e ≤ 10 := by
  rcases wdG_spec (p := isW t T s e) 10 0 rfl with ⟨h, -⟩ | ⟨h, -⟩
  · exact Nat.le_of_eq h
  · exact Nat.le_of_lt h
theorem tx_up (hX : TX I) {f : Nat → Int32} : TX (va_up I 1 f) := fun i => by rw [up_ne (by omega)]; exact hX i
theorem X4_readLine (hZ : St Z) (hX : TX I) {T e G : Nat} (hT : I 1 1 = nI T) (hT2 : T ≤ 200) (he : I 1 4 = nI e) (he2 : e ≤ T) (hG : I 8 4 = nI G) (hG1 : 1 ≤ G) (hG2 : G ≤ 10) : ∃ I', g_at 37 0 [.ref 1, .ref 8, .null] [] Z I J = some (some (.int (b2i (lnF (I 2) T e (nI G)).1)), Z, I', J) ∧ TF I I' ∧ ((lnF (I 2) T e (nI G)).1 = true → I' 1 4 = nI (lnF (I 2) T e (nI G)).2.1 ∧ DD I' = dl (DD I) (lnF (I 2) T e (nI G)).2.2) ∧ ((lnF (I 2) T e (nI G)).1 = false → I' 1 3 = nI (lnF (I 2) T e (nI G)).2.1) := by
  have ht := X4_nextToken (J := J) hZ hT hT2 he he2
  rw [show tkE (I 2) T (tkS (I 2) T e) = tkN (I 2) T e from rfl] at ht
  obtain ⟨-, b1, b2, b3⟩ := tk_le (I 2) he2
  have e5 : va_up (va_up (va_up (I 1) 3 (nI (tkS (I 2) T e))) 4 (nI (tkN (I 2) T e))) 5 (I 1 5) = va_up (va_up (I 1) 3 (nI (tkS (I 2) T e))) 4 (nI (tkN (I 2) T e)) := up_id (by simp (decide := true) only [up_ne])
  rw [← e5] at ht
  have hw := X4_wordHere (I := va_up I 1 (va_up (va_up (va_up (I 1) 3 (nI (tkS (I 2) T e))) 4 (nI (tkN (I 2) T e))) 5 (I 1 5))) (J := J) hZ (tx_up hX) (T := T) (s := tkS (I 2) T e) (e := tkN (I 2) T e) (by simp (decide := true) only [up_eq, up_ne]; exact hT) hT2 (by simp (decide := true) only [up_eq, up_ne]) (by simp (decide := true) only [up_eq, up_ne]) b2 b3
  simp (decide := true) only [up_ne] at hw
  have hk := wdN_le (t := I 2) (T := T) (s := tkS (I 2) T e) (e := tkN (I 2) T e)
  unfold lnF
  generalize wdN (I 2) T (tkS (I 2) T e) (tkN (I 2) T e) = k at hw hk ⊢
  rcases (by omega : k = 10 ∨ (7 ≤ k ∧ k < 10) ∨ (3 ≤ k ∧ k < 7) ∨ k = 0 ∨ k = 1 ∨ k = 2) with q | q | q | q | q | q
  · rw [if_pos q] at hw ⊢
    refine ⟨va_up I 1 (va_up (va_up (va_up (I 1) 3 (nI (tkS (I 2) T e))) 4 (nI (tkN (I 2) T e))) 5 (I 1 5)), ?_, tf_0, fun z => b_ft z, fun _ => ?_⟩
    · simp (decide := true) only [gN1_int, gN1_ref, gN1_null, gN1_long, gTg8_8, gTg8_14, gTg9_9, gTg9_13, gTgA_8, gTgA_9, gTgA_10, gTgA_11, gTgA_13, gTgA_14, gB01_0, gB01_1, gB01_b, List.cons_append, List.nil_append, Option.toList_some, Option.toList_none, Option.bind_some, ↓reduceIte, eq_self, not_true_eq_false, not_false_eq_true, b2i_0, b2i_1, up_eq, up_ne, up_up, up_sort, up_self, fl_at, nI_s, q_37_0, q_37_1, q_37_4, q_37_5, q_37_8, q_37_9, q_37_10, q_37_11, q_37_14, q_37_15, q_37_16, q_37_17, q_37_19, q_37_22, q_37_23, q_37_24, q_37_26, q_37_27, q_37_30, q_37_31, q_37_32, q_37_33, q_37_34, q_37_37, q_37_38, q_37_39, q_37_40, q_37_41, q_37_42, q_37_45, q_37_46, q_37_47, q_37_72, q_37_73, q_37_74, q_37_77, q_37_78, q_37_79, q_37_80, q_37_83, q_37_84, q_37_85, q_37_86, q_37_89, q_37_90, q_37_91, zk_1, zk_8, zs_1_0, zr_1_0, zs_8_0, zr_8_0, zs_8_1, zr_8_1, zs_8_2, zr_8_2, zs_8_3, zr_8_3, hZ, ht, hw]
      rfl
    · simp (decide := true) only [up_eq, up_ne]
  · have n10 : ¬ k = 10 := by omega
    have f1 : ¬ nI k = -1 := ne_m1 hk
    have f2 : ¬ nI k < 7 := nI_nlt (a := k) (b := 7) q.1 (by omega)
    have f3 : nI k - 7 = nI (k - 7) := nI_sb (v := 7) q.1
    rw [if_neg n10] at hw ⊢
    rw [if_pos q.1]
    refine ⟨va_up (va_up I 1 (va_up (va_up (va_up (I 1) 3 (nI (tkS (I 2) T e))) 4 (nI (tkN (I 2) T e))) 5 (I 1 5))) 8 (va_up (I 8) 5 (nI (k - 7))), ?_, ⟨fun a h1 h2 => ?_, ?_, ?_⟩, fun _ => ⟨?_, ?_⟩, fun z => b_tf z⟩
    · simp (decide := true) only [gN1_int, gN1_ref, gN1_null, gN1_long, gTg8_8, gTg8_14, gTg9_9, gTg9_13, gTgA_8, gTgA_9, gTgA_10, gTgA_11, gTgA_13, gTgA_14, gB01_0, gB01_1, gB01_b, List.cons_append, List.nil_append, Option.toList_some, Option.toList_none, Option.bind_some, ↓reduceIte, eq_self, not_true_eq_false, not_false_eq_true, b2i_0, b2i_1, up_eq, up_ne, up_up, up_sort, up_self, fl_at, nI_s, q_37_0, q_37_1, q_37_4, q_37_5, q_37_8, q_37_9, q_37_10, q_37_11, q_37_14, q_37_15, q_37_16, q_37_17, q_37_19, q_37_22, q_37_23, q_37_24, q_37_26, q_37_27, q_37_30, q_37_31, q_37_32, q_37_33, q_37_34, q_37_37, q_37_38, q_37_39, q_37_40, q_37_41, q_37_42, q_37_45, q_37_46, q_37_47, q_37_72, q_37_73, q_37_74, q_37_77, q_37_78, q_37_79, q_37_80, q_37_83, q_37_84, q_37_85, q_37_86, q_37_89, q_37_90, q_37_91, zk_1, zk_8, zs_1_0, zr_1_0, zs_8_0, zr_8_0, zs_8_1, zr_8_1, zs_8_2, zr_8_2, zs_8_3, zr_8_3, hZ, ht, hw, f1, f2, f3]
      rfl
    · rw [up_ne (by omega), up_ne h1]
    · simp (decide := true) only [up_eq, up_ne]
    · simp (decide := true) only [up_eq, up_ne]
    · simp (decide := true) only [up_eq, up_ne]
    · unfold DD dl
      simp (decide := true) only [up_eq, up_ne, show ¬ k = 0 from by omega, show ¬ k = 1 from by omega, show ¬ k = 2 from by omega, show ¬ k < 7 from by omega, if_true, if_false]
  · have n10 : ¬ k = 10 := by omega
    have f1 : ¬ nI k = -1 := ne_m1 hk
    have f2 : nI k < 7 := nI_lt (a := k) (b := 7) q.2 (by omega)
    have f3 : nI k - 3 = nI (k - 3) := nI_sb (v := 3) q.1
    have f4 : ¬ nI k < 3 := nI_nlt (a := k) (b := 3) q.1 (by omega)
    rw [if_neg n10] at hw ⊢
    rw [if_neg (show ¬ 7 ≤ k by omega), if_pos q.1]
    obtain ⟨I', r1, r2, r3, r4, r5⟩ := X4_readMonk (J := J) hZ hT hT2 b3 hG hG1 hG2 (nI (tkS (I 2) T e)) (I 1 5) q
    refine ⟨I', ?_, r2, fun z => ?_, fun z => ?_⟩
    · simp (decide := true) only [gN1_int, gN1_ref, gN1_null, gN1_long, gTg8_8, gTg8_14, gTg9_9, gTg9_13, gTgA_8, gTgA_9, gTgA_10, gTgA_11, gTgA_13, gTgA_14, gB01_0, gB01_1, gB01_b, List.cons_append, List.nil_append, Option.toList_some, Option.toList_none, Option.bind_some, ↓reduceIte, eq_self, not_true_eq_false, not_false_eq_true, b2i_0, b2i_1, up_eq, up_ne, up_up, up_sort, up_self, fl_at, nI_s, q_37_0, q_37_1, q_37_4, q_37_5, q_37_8, q_37_9, q_37_10, q_37_11, q_37_14, q_37_15, q_37_16, q_37_17, q_37_19, q_37_22, q_37_23, q_37_24, q_37_26, q_37_27, q_37_30, q_37_31, q_37_32, q_37_33, q_37_34, q_37_37, q_37_38, q_37_39, q_37_40, q_37_41, q_37_42, q_37_45, q_37_46, q_37_47, q_37_72, q_37_73, q_37_74, q_37_77, q_37_78, q_37_79, q_37_80, q_37_83, q_37_84, q_37_85, q_37_86, q_37_89, q_37_90, q_37_91, zk_1, zk_8, zs_1_0, zr_1_0, zs_8_0, zr_8_0, zs_8_1, zr_8_1, zs_8_2, zr_8_2, zs_8_3, zr_8_3, hZ, ht, hw, f1, f2, f3, f4, r1]
      cases okN (I 2) T (tkN (I 2) T e) 0 (nI G - 1) <;> cases okN (I 2) T (tkN (I 2) T (tkN (I 2) T e)) 1 20 <;> rfl
    · cases o1 : okN (I 2) T (tkN (I 2) T e) 0 (nI G - 1) <;> cases o2 : okN (I 2) T (tkN (I 2) T (tkN (I 2) T e)) 1 20 <;> rw [o1, o2] at z <;> first | exact b_ft z | exact r3 o1 o2
    · cases o1 : okN (I 2) T (tkN (I 2) T e) 0 (nI G - 1)
      · exact r4 o1
      · cases o2 : okN (I 2) T (tkN (I 2) T (tkN (I 2) T e)) 1 20
        · exact r5 o1 o2
        · rw [o1, o2] at z
          first | exact b_ft z | exact b_tf z
  · subst q
    rw [if_neg (by decide)] at hw ⊢
    rw [if_neg (by decide), if_neg (by decide), if_pos rfl]
    rw [nI_0] at hw
    obtain ⟨I', r1, r2, r3, r4⟩ := X4_readCloister (J := J) hZ hT hT2 b3 hG hG1 hG2 (nI (tkS (I 2) T e)) (I 1 5)
    refine ⟨I', ?_, r2, fun z => ?_, fun z => ?_⟩
    · simp (decide := true) only [gN1_int, gN1_ref, gN1_null, gN1_long, gTg8_8, gTg8_14, gTg9_9, gTg9_13, gTgA_8, gTgA_9, gTgA_10, gTgA_11, gTgA_13, gTgA_14, gB01_0, gB01_1, gB01_b, List.cons_append, List.nil_append, Option.toList_some, Option.toList_none, Option.bind_some, ↓reduceIte, eq_self, not_true_eq_false, not_false_eq_true, b2i_0, b2i_1, up_eq, up_ne, up_up, up_sort, up_self, fl_at, nI_s, q_37_0, q_37_1, q_37_4, q_37_5, q_37_8, q_37_9, q_37_10, q_37_11, q_37_14, q_37_15, q_37_16, q_37_17, q_37_19, q_37_22, q_37_23, q_37_24, q_37_26, q_37_27, q_37_30, q_37_31, q_37_32, q_37_33, q_37_34, q_37_37, q_37_38, q_37_39, q_37_40, q_37_41, q_37_42, q_37_45, q_37_46, q_37_47, q_37_72, q_37_73, q_37_74, q_37_77, q_37_78, q_37_79, q_37_80, q_37_83, q_37_84, q_37_85, q_37_86, q_37_89, q_37_90, q_37_91, zk_1, zk_8, zs_1_0, zr_1_0, zs_8_0, zr_8_0, zs_8_1, zr_8_1, zs_8_2, zr_8_2, zs_8_3, zr_8_3, hZ, ht, hw, r1]
      cases okN (I 2) T (tkN (I 2) T e) 2 10 <;> rfl
    · cases o1 : okN (I 2) T (tkN (I 2) T e) 2 10
      · rw [o1] at z
        first | exact b_ft z | exact b_tf z
      · exact r3 o1
    · cases o1 : okN (I 2) T (tkN (I 2) T e) 2 10
      · exact r4 o1
      · rw [o1] at z
        first | exact b_ft z | exact b_tf z
  · subst q
    rw [if_neg (by decide)] at hw ⊢
    rw [if_neg (by decide), if_neg (by decide), if_neg (by decide), if_pos rfl]
    rw [show nI 1 = (1 : Int32) from rfl] at hw
    obtain ⟨I', r1, r2, r3, r4, r5, r6⟩ := X4_readHears (J := J) hZ hT hT2 b3 hG hG1 hG2 (nI (tkS (I 2) T e)) (I 1 5)
    refine ⟨I', ?_, r2, fun z => ?_, fun z => ?_⟩
    · simp (decide := true) only [gN1_int, gN1_ref, gN1_null, gN1_long, gTg8_8, gTg8_14, gTg9_9, gTg9_13, gTgA_8, gTgA_9, gTgA_10, gTgA_11, gTgA_13, gTgA_14, gB01_0, gB01_1, gB01_b, List.cons_append, List.nil_append, Option.toList_some, Option.toList_none, Option.bind_some, ↓reduceIte, eq_self, not_true_eq_false, not_false_eq_true, b2i_0, b2i_1, up_eq, up_ne, up_up, up_sort, up_self, fl_at, nI_s, q_37_0, q_37_1, q_37_4, q_37_5, q_37_8, q_37_9, q_37_10, q_37_11, q_37_14, q_37_15, q_37_16, q_37_17, q_37_19, q_37_22, q_37_23, q_37_24, q_37_26, q_37_27, q_37_30, q_37_31, q_37_32, q_37_33, q_37_34, q_37_37, q_37_38, q_37_39, q_37_40, q_37_41, q_37_42, q_37_45, q_37_46, q_37_47, q_37_72, q_37_73, q_37_74, q_37_77, q_37_78, q_37_79, q_37_80, q_37_83, q_37_84, q_37_85, q_37_86, q_37_89, q_37_90, q_37_91, zk_1, zk_8, zs_1_0, zr_1_0, zs_8_0, zr_8_0, zs_8_1, zr_8_1, zs_8_2, zr_8_2, zs_8_3, zr_8_3, hZ, ht, hw, r1]
      by_cases o3 : nuV (I 2) T (tkN (I 2) T (tkN (I 2) T e)) = nuV (I 2) T (tkN (I 2) T e) <;> cases okN (I 2) T (tkN (I 2) T e) 0 (nI G - 1) <;> cases okN (I 2) T (tkN (I 2) T (tkN (I 2) T e)) 0 (nI G - 1) <;> cases okN (I 2) T (tkN (I 2) T (tkN (I 2) T (tkN (I 2) T e))) 1 9 <;> simp [o3]
    · by_cases o3 : nuV (I 2) T (tkN (I 2) T (tkN (I 2) T e)) = nuV (I 2) T (tkN (I 2) T e) <;> cases o1 : okN (I 2) T (tkN (I 2) T e) 0 (nI G - 1) <;> cases o2 : okN (I 2) T (tkN (I 2) T (tkN (I 2) T e)) 0 (nI G - 1) <;> cases o4 : okN (I 2) T (tkN (I 2) T (tkN (I 2) T (tkN (I 2) T e))) 1 9 <;> simp [o1, o2, o3, o4] at z ⊢
      simp [o3] at r3
      exact r3 o1 o2 o4
    · by_cases o3 : nuV (I 2) T (tkN (I 2) T (tkN (I 2) T e)) = nuV (I 2) T (tkN (I 2) T e) <;> cases o1 : okN (I 2) T (tkN (I 2) T e) 0 (nI G - 1) <;> cases o2 : okN (I 2) T (tkN (I 2) T (tkN (I 2) T e)) 0 (nI G - 1) <;> cases o4 : okN (I 2) T (tkN (I 2) T (tkN (I 2) T (tkN (I 2) T e))) 1 9 <;> simp [o1, o2, o3, o4] at z ⊢ <;> first | exact r4 o1 | exact r5 o1 (Or.inr o3) | exact r5 o1 (Or.inl o2) | exact r6 o1 o2 o3 o4
  · subst q
    rw [if_neg (by decide)] at hw ⊢
    rw [if_neg (by decide), if_neg (by decide), if_neg (by decide), if_neg (by decide)]
    rw [show nI 2 = (2 : Int32) from rfl] at hw
    obtain ⟨I', r1, r2, r3, r4⟩ := X4_readAlone (J := J) hZ hT hT2 b3 hG hG1 hG2 (nI (tkS (I 2) T e)) (I 1 5)
    refine ⟨I', ?_, r2, fun z => ?_, fun z => ?_⟩
    · simp (decide := true) only [gN1_int, gN1_ref, gN1_null, gN1_long, gTg8_8, gTg8_14, gTg9_9, gTg9_13, gTgA_8, gTgA_9, gTgA_10, gTgA_11, gTgA_13, gTgA_14, gB01_0, gB01_1, gB01_b, List.cons_append, List.nil_append, Option.toList_some, Option.toList_none, Option.bind_some, ↓reduceIte, eq_self, not_true_eq_false, not_false_eq_true, b2i_0, b2i_1, up_eq, up_ne, up_up, up_sort, up_self, fl_at, nI_s, q_37_0, q_37_1, q_37_4, q_37_5, q_37_8, q_37_9, q_37_10, q_37_11, q_37_14, q_37_15, q_37_16, q_37_17, q_37_19, q_37_22, q_37_23, q_37_24, q_37_26, q_37_27, q_37_30, q_37_31, q_37_32, q_37_33, q_37_34, q_37_37, q_37_38, q_37_39, q_37_40, q_37_41, q_37_42, q_37_45, q_37_46, q_37_47, q_37_72, q_37_73, q_37_74, q_37_77, q_37_78, q_37_79, q_37_80, q_37_83, q_37_84, q_37_85, q_37_86, q_37_89, q_37_90, q_37_91, zk_1, zk_8, zs_1_0, zr_1_0, zs_8_0, zr_8_0, zs_8_1, zr_8_1, zs_8_2, zr_8_2, zs_8_3, zr_8_3, hZ, ht, hw, r1]
      cases okN (I 2) T (tkN (I 2) T e) 0 (nI G - 1) <;> rfl
    · cases o1 : okN (I 2) T (tkN (I 2) T e) 0 (nI G - 1)
      · rw [o1] at z
        first | exact b_ft z | exact b_tf z
      · exact r3 o1
    · cases o1 : okN (I 2) T (tkN (I 2) T e) 0 (nI G - 1)
      · exact r4 o1
      · rw [o1] at z
        first | exact b_ft z | exact b_tf z
end
