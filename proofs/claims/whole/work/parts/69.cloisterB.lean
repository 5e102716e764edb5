/-! the class's fault and cloister -/
section
variable {Z : gZ} {I : gI} {J : gJ}
def DH (I : gI) : Int32 × Int32 × (Nat → Int32) × (Nat → Int32) × (Nat → Int32) × (Nat → Int32) := (I 3 4, I 3 5, I 4, I 5, I 6, I 7)
theorem tg_d0 : TG I (va_up (va_up (va_up (va_up (va_up I 8 (va_up (va_up (I 8) 4 (I 3 4)) 5 (I 3 5))) 9 (fl (I 4) (I 9) 10)) 10 (fl (I 5) (I 10) 10)) 11 (fl (I 6) (I 11) 10)) 12 (fl (I 7) (I 12) 10)) := ⟨fun a h1 h2 => by rw [up_ne (by omega), up_ne (by omega), up_ne (by omega), up_ne (by omega), up_ne (by omega)], by simp (decide := true) only [up_ne]⟩
theorem pj_d0 : pj (I 4) (I 5) (I 6) (I 7) (DD (va_up (va_up (va_up (va_up (va_up I 8 (va_up (va_up (I 8) 4 (I 3 4)) 5 (I 3 5))) 9 (fl (I 4) (I 9) 10)) 10 (fl (I 5) (I 10) 10)) 11 (fl (I 6) (I 11) 10)) 12 (fl (I 7) (I 12) 10))) = DH I := by
  unfold pj DD DH
  simp (decide := true) only [up_eq, up_ne, fl_fl, fl_self]
theorem X6_rd (hZ : St Z) (hX : TX I) {T N : Nat} (hT : I 1 1 = nI T) (hT2 : T ≤ 200) (hN : I 3 4 = nI N) (hN1 : 2 ≤ N) (hN2 : N ≤ 10) : ∃ I', g_at 36 0 [.ref 1, .ref 8] [] Z (va_up (va_up (va_up (va_up (va_up I 8 (va_up (va_up (I 8) 4 (I 3 4)) 5 (I 3 5))) 9 (fl (I 4) (I 9) 10)) 10 (fl (I 5) (I 10) 10)) 11 (fl (I 6) (I 11) 10)) 12 (fl (I 7) (I 12) 10)) J = some (some (.int (if (lnsF (I 2) T 12 0 (nI N)).1 = true then -1 else nI (lnsF (I 2) T 12 0 (nI N)).2.1)), Z, I', J) ∧ TG I I' ∧ ((lnsF (I 2) T 12 0 (nI N)).1 = true → I' 1 2 = nI (lnsF (I 2) T 12 0 (nI N)).2.2.length ∧ DD I' = (lnsF (I 2) T 12 0 (nI N)).2.2.foldl dl (DD (va_up (va_up (va_up (va_up (va_up I 8 (va_up (va_up (I 8) 4 (I 3 4)) 5 (I 3 5))) 9 (fl (I 4) (I 9) 10)) 10 (fl (I 5) (I 10) 10)) 11 (fl (I 6) (I 11) 10)) 12 (fl (I 7) (I 12) 10)))) := by
  obtain ⟨I', r1, r2, r3⟩ := X4_readOnto (I := va_up (va_up (va_up (va_up (va_up I 8 (va_up (va_up (I 8) 4 (I 3 4)) 5 (I 3 5))) 9 (fl (I 4) (I 9) 10)) 10 (fl (I 5) (I 10) 10)) 11 (fl (I 6) (I 11) 10)) 12 (fl (I 7) (I 12) 10)) (J := J) hZ (tg_tx tg_d0 hX) (T := T) (G := N) (by simp (decide := true) only [up_ne]; exact hT) hT2 (by simp (decide := true) only [up_eq, up_ne]; exact hN) hN1 hN2
  rw [show (va_up (va_up (va_up (va_up (va_up I 8 (va_up (va_up (I 8) 4 (I 3 4)) 5 (I 3 5))) 9 (fl (I 4) (I 9) 10)) 10 (fl (I 5) (I 10) 10)) 11 (fl (I 6) (I 11) 10)) 12 (fl (I 7) (I 12) 10)) 2 = I 2 by simp (decide := true) only [up_ne]] at r1 r3
  exact ⟨I', r1, tg_trans tg_d0 r2, r3⟩
theorem X6_fault (hZ : St Z) (hX : TX I) {T N : Nat} (hT : I 1 1 = nI T) (hT2 : T ≤ 200) (hN : I 3 4 = nI N) (hN1 : 2 ≤ N) (hN2 : N ≤ 10) : ∃ I', g_at 55 0 [.ref 0] [] Z I J = some (some (.int (if (lnsF (I 2) T 12 0 (nI N)).1 = true then -1 else nI (lnsF (I 2) T 12 0 (nI N)).2.1)), Z, I', J) ∧ TG I I' := by
  obtain ⟨I', r1, r2, r3⟩ := X6_rd (J := J) hZ hX hT hT2 hN hN1 hN2
  refine ⟨I', ?_, r2⟩
  simp (decide := true) only [gN1_int, gN1_ref, gN1_null, gN1_long, gTg8_8, gTg8_14, gTg9_9, gTg9_13, gTgA_8, gTgA_9, gTgA_10, gTgA_11, gTgA_13, gTgA_14, gB01_0, gB01_1, gB01_b, List.cons_append, List.nil_append, Option.toList_some, Option.toList_none, Option.bind_some, ↓reduceIte, eq_self, not_true_eq_false, not_false_eq_true, b2i_0, b2i_1, up_eq, up_ne, up_up, up_sort, up_self, fl_at, nI_s, q_55_0, q_55_1, q_55_4, q_55_5, q_55_8, q_55_11, q_55_12, q_55_15, q_55_16, q_55_19, q_55_22, zk_0, zk_1, zk_3, zk_8, zs_0_0, zr_0_0, zs_0_1, zr_0_1, zs_0_2, zr_0_2, zs_0_3, zr_0_3, zs_0_4, zr_0_4, zs_0_5, zr_0_5, zs_0_6, zr_0_6, zs_0_7, zr_0_7, zs_1_0, zr_1_0, zs_3_0, zr_3_0, zs_3_1, zr_3_1, zs_3_2, zr_3_2, zs_3_3, zr_3_3, zs_8_0, zr_8_0, zs_8_1, zr_8_1, zs_8_2, zr_8_2, zs_8_3, zr_8_3, hZ, X0_copyFrom_8_3 hZ, r1]
theorem X6_cloister_no (hZ : St Z) (hX : TX I) {T N : Nat} (hT : I 1 1 = nI T) (hT2 : T ≤ 200) (hN : I 3 4 = nI N) (hN1 : 2 ≤ N) (hN2 : N ≤ 10) (h : (lnsF (I 2) T 12 0 (nI N)).1 = false) : ∃ I', g_at 56 0 [.ref 0, .null] [] Z I J = some (some (.int (-4)), Z, I', J) ∧ TG I I' := by
  obtain ⟨I', r1, r2, r3⟩ := X6_rd (J := J) hZ hX hT hT2 hN hN1 hN2
  rw [h, if_neg (by decide)] at r1
  have hle := lns_le (t := I 2) (T := T) 12 0 (nI N) (by omega)
  have hne := ne_200 _ (show (lnsF (I 2) T 12 0 (nI N)).2.1 ≤ 200 by omega)
  refine ⟨I', ?_, r2⟩
  simp (decide := true) only [gN1_int, gN1_ref, gN1_null, gN1_long, gTg8_8, gTg8_14, gTg9_9, gTg9_13, gTgA_8, gTgA_9, gTgA_10, gTgA_11, gTgA_13, gTgA_14, gB01_0, gB01_1, gB01_b, List.cons_append, List.nil_append, Option.toList_some, Option.toList_none, Option.bind_some, ↓reduceIte, eq_self, not_true_eq_false, not_false_eq_true, b2i_0, b2i_1, up_eq, up_ne, up_up, up_sort, up_self, fl_at, nI_s, q_56_0, q_56_1, q_56_4, q_56_5, q_56_8, q_56_11, q_56_12, q_56_15, q_56_16, q_56_19, q_56_22, q_56_23, q_56_26, q_56_28, zk_0, zk_1, zk_3, zk_8, zs_0_0, zr_0_0, zs_0_1, zr_0_1, zs_0_2, zr_0_2, zs_0_3, zr_0_3, zs_0_4, zr_0_4, zs_0_5, zr_0_5, zs_0_6, zr_0_6, zs_0_7, zr_0_7, zs_1_0, zr_1_0, zs_3_0, zr_3_0, zs_3_1, zr_3_1, zs_3_2, zr_3_2, zs_3_3, zr_3_3, zs_8_0, zr_8_0, zs_8_1, zr_8_1, zs_8_2, zr_8_2, zs_8_3, zr_8_3, hZ, X0_copyFrom_8_3 hZ, r1, hne]
theorem X6_cloister_yes (hZ : St Z) (hX : TX I) {T N : Nat} (hT : I 1 1 = nI T) (hT2 : T ≤ 200) (hN : I 3 4 = nI N) (hN1 : 2 ≤ N) (hN2 : N ≤ 10) (h : (lnsF (I 2) T 12 0 (nI N)).1 = true) (hl : ∀ l ∈ (lnsF (I 2) T 12 0 (nI N)).2.2, lv 10 l) : ∃ I' J', g_at 56 0 [.ref 0, .null] [] Z I J = some (some (.int (nI (lnsF (I 2) T 12 0 (nI N)).2.2.length)), Z, I', J') ∧ DH I' = (lnsF (I 2) T 12 0 (nI N)).2.2.foldl dl (DH I) ∧ I' 1 1 = 0 ∧ I' 13 3 = 0 ∧ I' 13 4 = I' 3 5 ∧ I' 15 = fl (fun _ => 0) (I 15) 10 ∧ I' 16 = fl (fun _ => 0) (I 16) 10 ∧ I' 27 2 = 0 ∧ I' 26 = va_up (va_up (I 26) 0 0) 1 0 ∧ (∀ a, (a = 2 ∨ (17 ≤ a ∧ a ≤ 25) ∨ 27 < a) → I' a = I a) ∧ J' 14 = fl (fun _ => 0) (J 14) 10 ∧ (∀ a, a ≠ 14 → J' a = J a) := by
  obtain ⟨I1, r1, r2, r3⟩ := X6_rd (J := J) hZ hX hT hT2 hN hN1 hN2
  obtain ⟨x1, x2⟩ := r3 h
  rw [h, if_pos rfl] at r1
  have y4 : I1 4 = I 4 := r2.1 4 (by decide) (by decide)
  have y5 : I1 5 = I 5 := r2.1 5 (by decide) (by decide)
  have y6 : I1 6 = I 6 := r2.1 6 (by decide) (by decide)
  have y7 : I1 7 = I 7 := r2.1 7 (by decide) (by decide)
  have hdh : pj (I1 4) (I1 5) (I1 6) (I1 7) (DD I1) = (lnsF (I 2) T 12 0 (nI N)).2.2.foldl dl (DH I) := by rw [y4, y5, y6, y7, x2, pj_dls _ _ hl, pj_d0]
  refine ⟨va_up (va_up (va_up (va_up (va_up (va_up (va_up (va_up (va_up (va_up (va_up I1 1 (va_up (I1 1) 1 0)) 3 (va_up (va_up (I1 3) 4 (I1 8 4)) 5 (I1 8 5))) 4 (fl (I1 9) (I1 4) 10)) 5 (fl (I1 10) (I1 5) 10)) 6 (fl (I1 11) (I1 6) 10)) 7 (fl (I1 12) (I1 7) 10)) 13 (va_up (va_up (I1 13) 3 0) 4 (I1 8 5))) 15 (fl (fun _ => 0) (I1 15) 10)) 16 (fl (fun _ => 0) (I1 16) 10)) 26 (va_up (va_up (I1 26) 0 0) 1 0)) 27 (va_up (I1 27) 2 0), va_up J 14 (fl (fun _ => 0) (J 14) 10), ?_, ?_, ?_, ?_, ?_, ?_, ?_, ?_, ?_, ?_, ?_, ?_⟩
  · simp (decide := true) only [gN1_int, gN1_ref, gN1_null, gN1_long, gTg8_8, gTg8_14, gTg9_9, gTg9_13, gTgA_8, gTgA_9, gTgA_10, gTgA_11, gTgA_13, gTgA_14, gB01_0, gB01_1, gB01_b, List.cons_append, List.nil_append, Option.toList_some, Option.toList_none, Option.bind_some, ↓reduceIte, eq_self, not_true_eq_false, not_false_eq_true, b2i_0, b2i_1, up_eq, up_ne, up_up, up_sort, up_self, fl_at, nI_s, q_56_0, q_56_1, q_56_4, q_56_5, q_56_8, q_56_11, q_56_12, q_56_15, q_56_16, q_56_19, q_56_22, q_56_23, q_56_26, q_56_28, q_56_29, q_56_30, q_56_33, q_56_34, q_56_37, q_56_40, q_56_41, q_56_44, q_56_45, q_56_48, q_56_49, q_56_52, q_56_53, q_56_56, q_56_59, q_56_62, q_56_63, q_56_66, q_56_67, q_56_70, q_56_71, q_56_72, q_56_73, q_56_74, q_56_77, q_56_78, q_56_81, q_56_82, q_56_83, q_56_84, q_56_87, q_56_90, q_56_91, q_56_94, q_56_97, zk_0, zk_1, zk_3, zk_8, zk_13, zk_26, zk_27, zs_0_0, zr_0_0, zs_0_1, zr_0_1, zs_0_2, zr_0_2, zs_0_3, zr_0_3, zs_0_4, zr_0_4, zs_0_5, zr_0_5, zs_0_6, zr_0_6, zs_0_7, zr_0_7, zs_1_0, zr_1_0, zs_3_0, zr_3_0, zs_3_1, zr_3_1, zs_3_2, zr_3_2, zs_3_3, zr_3_3, zs_8_0, zr_8_0, zs_8_1, zr_8_1, zs_8_2, zr_8_2, zs_8_3, zr_8_3, zs_13_0, zr_13_0, zs_13_1, zr_13_1, zs_13_2, zr_13_2, zs_27_0, zr_27_0, zs_27_1, zr_27_1, hZ, X0_copyFrom_8_3 hZ, X0_copyFrom_3_8 hZ, X2_begin hZ, r1, x1, show (0 : Int32) + 1 = 1 from rfl, show (1 : Int32) + 1 = 2 from rfl, show Int32.toNatClampNeg 0 = 0 from rfl, show Int32.toNatClampNeg 1 = 1 from rfl]
  · rw [← hdh]
    unfold DH pj DD
    simp (decide := true) only [up_eq, up_ne]
  · simp (decide := true) only [up_eq, up_ne]
  · simp (decide := true) only [up_eq, up_ne]
  · simp (decide := true) only [up_eq, up_ne]
  · simp (decide := true) only [up_eq, up_ne]
    rw [r2.1 15 (by decide) (by decide)]
  · simp (decide := true) only [up_eq, up_ne]
    rw [r2.1 16 (by decide) (by decide)]
  · simp (decide := true) only [up_eq, up_ne]
  · simp (decide := true) only [up_eq, up_ne]
    rw [r2.1 26 (by decide) (by decide)]
  · intro a ha
    rw [up_ne (by omega), up_ne (by omega), up_ne (by omega), up_ne (by omega), up_ne (by omega), up_ne (by omega), up_ne (by omega), up_ne (by omega), up_ne (by omega), up_ne (by omega), up_ne (by omega), r2.1 a (by omega) (by omega)]
  · rw [up_eq]
  · intro a h1
    rw [up_ne h1]
end
