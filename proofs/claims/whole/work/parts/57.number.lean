/-! Text: numbers, and what a line tells -/
section
variable {Z : gZ} {I : gI} {J : gJ}
def nvI (t : Nat → Int32) (s : Nat) : Nat → Int32
  | 0 => 0
  | n + 1 => nvI t s n * 10 + t (s + n) - 48
def tkN (t : Nat → Int32) (T e : Nat) : Nat := tkE t T (tkS t T e)
def tkM (t : Nat → Int32) (T e : Nat) : Nat := tkN t T e - tkS t T e
def nuV (t : Nat → Int32) (T e : Nat) : Int32 := nvI t (tkS t T e) (tkM t T e)
def okN (t : Nat → Int32) (T e : Nat) (lo hi : Int32) : Bool := (isD (byN t T (tkS t T e)) && decide (tkM t T e ≤ 2)) && (decide (lo ≤ nuV t T e) && decide (nuV t T e ≤ hi))
theorem tk_le (t : Nat → Int32) {T e : Nat} (he : e ≤ T) : e ≤ tkS t T e ∧ tkS t T e ≤ T ∧ tkS t T e ≤ tkN t T e ∧ tkN t T e ≤ T := by
  have h1 := rn_le (p := isB) (t := t) (T := T) (T - e) e he
  refine ⟨h1.1, h1.2, ?_⟩
  unfold tkN tkE
  have h2 : tkS t T e ≤ T := h1.2
  generalize tkS t T e = s at h2
  have h3 := rn_le (p := isL) (t := t) (T := T) (T - s) s h2
  have h4 := rn_le (p := isD) (t := t) (T := T) (T - s) s h2
  split
  · exact h3
  · split
    · exact h4
    · split <;> omega
theorem X4_nextNumber (hZ : St Z) {T e : Nat} (hT : I 1 1 = nI T) (hT2 : T ≤ 200) (he : I 1 4 = nI e) (he2 : e ≤ T) {lo hi : Int32} : ∃ x, g_at 43 0 [.ref 1, .int lo, .int hi, .null] [] Z I J = some (some (.int (b2i (okN (I 2) T e lo hi))), Z, va_up I 1 (va_up (va_up (va_up (I 1) 3 (nI (tkS (I 2) T e))) 4 (nI (tkN (I 2) T e))) 5 (x)), J) ∧ (okN (I 2) T e lo hi = true → x = nuV (I 2) T e) := by
  have ht := X4_nextToken (J := J) hZ hT hT2 he he2
  obtain ⟨-, b1, b2, b3⟩ := tk_le (I 2) he2
  unfold okN nuV tkM
  rw [show tkE (I 2) T (tkS (I 2) T e) = tkN (I 2) T e from rfl] at ht
  generalize tkS (I 2) T e = s at ht b1 b2 ⊢
  generalize tkN (I 2) T e = e1 at ht b2 b3 ⊢
  have e5 : va_up (va_up (va_up (I 1) 3 (nI s)) 4 (nI e1)) 5 (I 1 5) = va_up (va_up (I 1) 3 (nI s)) 4 (nI e1) := up_id (by simp (decide := true) only [up_ne])
  have e4 : nI e1 - nI s = nI (e1 - s) := nI_sb b2
  have hb := X4_byteAt (I := va_up I 1 (va_up (va_up (I 1) 3 (nI s)) 4 (nI e1))) (J := J) hZ (T := T) (i := s) (by simp (decide := true) only [up_eq, up_ne]; exact hT) hT2 (by omega)
  simp (decide := true) only [up_ne] at hb
  by_cases q1 : isD (byN (I 2) T s) = true
  · by_cases q2 : e1 - s ≤ 2
    · have q2' : nI (e1 - s) ≤ 2 := nI_le (b := 2) q2 (by omega)
      have key := loop_eq (fun k => g_at 43 43 [.ref 1, .int lo, .int hi, .int (nI (s + k))] [] Z (va_up I 1 (va_up (va_up (va_up (I 1) 3 (nI s)) 4 (nI e1)) 5 (nvI (I 2) s k))) J) (n := e1 - s) (fun k hk => by
        have f3 : ¬ nI e1 ≤ nI (s + k) := nI_ge (by omega) (by omega)
        have hb2 := X4_byteAt (I := va_up I 1 (va_up (va_up (va_up (I 1) 3 (nI s)) 4 (nI e1)) 5 (nvI (I 2) s k))) (J := J) hZ (T := T) (i := s + k) (by simp (decide := true) only [up_eq, up_ne]; exact hT) hT2 (by omega)
        simp (decide := true) only [up_ne] at hb2
        rw [by_lt (show s + k < T by omega)] at hb2
        try dsimp only
        rw [q_43_43]
        simp (decide := true) only [gN1_int, gN1_ref, gN1_null, gN1_long, gTg8_8, gTg8_14, gTg9_9, gTg9_13, gTgA_8, gTgA_9, gTgA_10, gTgA_11, gTgA_13, gTgA_14, gB01_0, gB01_1, gB01_b, List.cons_append, List.nil_append, Option.toList_some, Option.toList_none, Option.bind_some, ↓reduceIte, eq_self, not_true_eq_false, not_false_eq_true, b2i_0, b2i_1, up_eq, up_ne, up_up, up_sort, up_self, fl_at, nI_s, q_43_0, q_43_1, q_43_4, q_43_5, q_43_6, q_43_9, q_43_12, q_43_15, q_43_18, q_43_19, q_43_22, q_43_23, q_43_26, q_43_27, q_43_28, q_43_31, q_43_32, q_43_33, q_43_34, q_43_35, q_43_38, q_43_39, q_43_42, q_43_44, q_43_45, q_43_48, q_43_51, q_43_52, q_43_53, q_43_56, q_43_58, q_43_59, q_43_60, q_43_61, q_43_64, q_43_65, q_43_67, q_43_68, q_43_71, q_43_74, q_43_77, q_43_78, q_43_81, q_43_82, q_43_85, q_43_86, q_43_89, q_43_90, q_43_93, q_43_94, q_43_97, q_43_98, zk_1, zs_1_0, zr_1_0, hZ, f3, hb2, nvI, Nat.add_assoc])
      simp only [nvI, Nat.add_zero] at key
      refine ⟨nvI (I 2) s (e1 - s), ?_, fun _ => rfl⟩
      simp (decide := true) only [gN1_int, gN1_ref, gN1_null, gN1_long, gTg8_8, gTg8_14, gTg9_9, gTg9_13, gTgA_8, gTgA_9, gTgA_10, gTgA_11, gTgA_13, gTgA_14, gB01_0, gB01_1, gB01_b, List.cons_append, List.nil_append, Option.toList_some, Option.toList_none, Option.bind_some, ↓reduceIte, eq_self, not_true_eq_false, not_false_eq_true, b2i_0, b2i_1, up_eq, up_ne, up_up, up_sort, up_self, fl_at, nI_s, q_43_0, q_43_1, q_43_4, q_43_5, q_43_6, q_43_9, q_43_12, q_43_15, q_43_18, q_43_19, q_43_22, q_43_23, q_43_26, q_43_27, q_43_28, q_43_31, q_43_32, q_43_33, q_43_34, q_43_35, q_43_38, q_43_39, q_43_42, zk_1, zs_1_0, zr_1_0, hZ, ht, hb, X4_isDigit, q1, q2, q2', e4, Bool.true_eq_false, decide_true, Bool.true_and]
      rw [key, q_43_43, show s + (e1 - s) = e1 by omega]
      by_cases q3 : nvI (I 2) s (e1 - s) < lo
      · have q3' := Int32.not_le.mpr q3
        simp (decide := true) only [gN1_int, gN1_ref, gN1_null, gN1_long, gTg8_8, gTg8_14, gTg9_9, gTg9_13, gTgA_8, gTgA_9, gTgA_10, gTgA_11, gTgA_13, gTgA_14, gB01_0, gB01_1, gB01_b, List.cons_append, List.nil_append, Option.toList_some, Option.toList_none, Option.bind_some, ↓reduceIte, eq_self, not_true_eq_false, not_false_eq_true, b2i_0, b2i_1, up_eq, up_ne, up_up, up_sort, up_self, fl_at, nI_s, q_43_0, q_43_1, q_43_4, q_43_5, q_43_6, q_43_9, q_43_12, q_43_15, q_43_18, q_43_19, q_43_22, q_43_23, q_43_26, q_43_27, q_43_28, q_43_31, q_43_32, q_43_33, q_43_34, q_43_35, q_43_38, q_43_39, q_43_42, q_43_44, q_43_45, q_43_48, q_43_51, q_43_52, q_43_53, q_43_56, q_43_58, q_43_59, q_43_60, q_43_61, q_43_64, q_43_65, q_43_67, q_43_68, q_43_71, q_43_74, q_43_77, q_43_78, q_43_81, q_43_82, q_43_85, q_43_86, q_43_89, q_43_90, q_43_93, q_43_94, q_43_97, q_43_98, zk_1, zs_1_0, zr_1_0, hZ, Int32.le_refl, q3, q3', decide_false, Bool.false_and]
        rfl
      · have q3' := Int32.not_lt.mp q3
        by_cases q4 : hi < nvI (I 2) s (e1 - s)
        · have q4' := Int32.not_le.mpr q4
          simp (decide := true) only [gN1_int, gN1_ref, gN1_null, gN1_long, gTg8_8, gTg8_14, gTg9_9, gTg9_13, gTgA_8, gTgA_9, gTgA_10, gTgA_11, gTgA_13, gTgA_14, gB01_0, gB01_1, gB01_b, List.cons_append, List.nil_append, Option.toList_some, Option.toList_none, Option.bind_some, ↓reduceIte, eq_self, not_true_eq_false, not_false_eq_true, b2i_0, b2i_1, up_eq, up_ne, up_up, up_sort, up_self, fl_at, nI_s, q_43_0, q_43_1, q_43_4, q_43_5, q_43_6, q_43_9, q_43_12, q_43_15, q_43_18, q_43_19, q_43_22, q_43_23, q_43_26, q_43_27, q_43_28, q_43_31, q_43_32, q_43_33, q_43_34, q_43_35, q_43_38, q_43_39, q_43_42, q_43_44, q_43_45, q_43_48, q_43_51, q_43_52, q_43_53, q_43_56, q_43_58, q_43_59, q_43_60, q_43_61, q_43_64, q_43_65, q_43_67, q_43_68, q_43_71, q_43_74, q_43_77, q_43_78, q_43_81, q_43_82, q_43_85, q_43_86, q_43_89, q_43_90, q_43_93, q_43_94, q_43_97, q_43_98, zk_1, zs_1_0, zr_1_0, hZ, Int32.le_refl, q3, q3', q4, q4', decide_false, decide_true, Bool.true_and]
          rfl
        · have q4' := Int32.not_lt.mp q4
          simp (decide := true) only [gN1_int, gN1_ref, gN1_null, gN1_long, gTg8_8, gTg8_14, gTg9_9, gTg9_13, gTgA_8, gTgA_9, gTgA_10, gTgA_11, gTgA_13, gTgA_14, gB01_0, gB01_1, gB01_b, List.cons_append, List.nil_append, Option.toList_some, Option.toList_none, Option.bind_some, ↓reduceIte, eq_self, not_true_eq_false, not_false_eq_true, b2i_0, b2i_1, up_eq, up_ne, up_up, up_sort, up_self, fl_at, nI_s, q_43_0, q_43_1, q_43_4, q_43_5, q_43_6, q_43_9, q_43_12, q_43_15, q_43_18, q_43_19, q_43_22, q_43_23, q_43_26, q_43_27, q_43_28, q_43_31, q_43_32, q_43_33, q_43_34, q_43_35, q_43_38, q_43_39, q_43_42, q_43_44, q_43_45, q_43_48, q_43_51, q_43_52, q_43_53, q_43_56, q_43_58, q_43_59, q_43_60, q_43_61, q_43_64, q_43_65, q_43_67, q_43_68, q_43_71, q_43_74, q_43_77, q_43_78, q_43_81, q_43_82, q_43_85, q_43_86, q_43_89, q_43_90, q_43_93, q_43_94, q_43_97, q_43_98, zk_1, zs_1_0, zr_1_0, hZ, Int32.le_refl, q3, q3', q4, q4', decide_true, Bool.true_and]
          rfl
    · have q2' : ¬ nI (e1 - s) ≤ 2 := nI_ge (a := 2) (by omega) (by omega)
      refine ⟨I 1 5, ?_, fun z => ?_⟩
      · rw [e5]
        simp (decide := true) only [gN1_int, gN1_ref, gN1_null, gN1_long, gTg8_8, gTg8_14, gTg9_9, gTg9_13, gTgA_8, gTgA_9, gTgA_10, gTgA_11, gTgA_13, gTgA_14, gB01_0, gB01_1, gB01_b, List.cons_append, List.nil_append, Option.toList_some, Option.toList_none, Option.bind_some, ↓reduceIte, eq_self, not_true_eq_false, not_false_eq_true, b2i_0, b2i_1, up_eq, up_ne, up_up, up_sort, up_self, fl_at, nI_s, q_43_0, q_43_1, q_43_4, q_43_5, q_43_6, q_43_9, q_43_12, q_43_15, q_43_18, q_43_19, q_43_22, q_43_23, q_43_26, q_43_27, q_43_28, q_43_31, q_43_32, q_43_33, q_43_34, q_43_35, q_43_38, q_43_39, q_43_42, zk_1, zs_1_0, zr_1_0, hZ, ht, hb, X4_isDigit, q1, q2, q2', e4, Bool.true_eq_false, decide_false, Bool.and_false, Bool.false_and]
        rfl
      · simp [q2] at z
  · have q1' : isD (byN (I 2) T s) = false := by simpa using q1
    refine ⟨I 1 5, ?_, fun z => ?_⟩
    · rw [e5]
      simp (decide := true) only [gN1_int, gN1_ref, gN1_null, gN1_long, gTg8_8, gTg8_14, gTg9_9, gTg9_13, gTgA_8, gTgA_9, gTgA_10, gTgA_11, gTgA_13, gTgA_14, gB01_0, gB01_1, gB01_b, List.cons_append, List.nil_append, Option.toList_some, Option.toList_none, Option.bind_some, ↓reduceIte, eq_self, not_true_eq_false, not_false_eq_true, b2i_0, b2i_1, up_eq, up_ne, up_up, up_sort, up_self, fl_at, nI_s, q_43_0, q_43_1, q_43_4, q_43_5, q_43_6, q_43_9, q_43_12, q_43_15, q_43_18, q_43_19, q_43_22, q_43_23, q_43_26, q_43_27, q_43_28, q_43_31, q_43_32, q_43_33, q_43_34, q_43_35, q_43_38, q_43_39, q_43_42, zk_1, zs_1_0, zr_1_0, hZ, ht, hb, X4_isDigit, q1', Bool.false_and]
      rfl
    · simp [q1'] at z
theorem X4_nn (hZ : St Z) {T e : Nat} (hT : I 1 1 = nI T) (hT2 : T ≤ 200) (he2 : e ≤ T) (s0 x0 lo hi : Int32) : ∃ x, g_at 43 0 [.ref 1, .int lo, .int hi, .null] [] Z (va_up I 1 (va_up (va_up (va_up (I 1) 3 (s0)) 4 (nI e)) 5 (x0))) J = some (some (.int (b2i (okN (I 2) T e lo hi))), Z, va_up I 1 (va_up (va_up (va_up (I 1) 3 (nI (tkS (I 2) T e))) 4 (nI (tkN (I 2) T e))) 5 (x)), J) ∧ (okN (I 2) T e lo hi = true → x = nuV (I 2) T e) := by
  obtain ⟨x, r1, r2⟩ := X4_nextNumber (I := va_up I 1 (va_up (va_up (va_up (I 1) 3 (s0)) 4 (nI e)) 5 (x0))) (J := J) hZ (T := T) (e := e) (by simp (decide := true) only [up_eq, up_ne]; exact hT) hT2 (by simp (decide := true) only [up_eq, up_ne]) he2 (lo := lo) (hi := hi)
  simp (decide := true) only [up_eq, up_ne, up_up, up_sort] at r1 r2
  exact ⟨x, r1, r2⟩
theorem okN_ix {t : Nat → Int32} {T e G : Nat} (hG : 1 ≤ G) (hG2 : G ≤ 10) (h : okN t T e 0 (nI G - 1) = true) : ∃ a, a < G ∧ nuV t T e = nI a := by
  unfold okN at h
  simp only [Bool.and_eq_true, decide_eq_true_eq] at h
  obtain ⟨-, h1, h2⟩ := h
  obtain ⟨n, rfl⟩ : ∃ n, G = n + 1 := ⟨G - 1, by omega⟩
  rw [nI_pred] at h2
  obtain ⟨a, ha, e⟩ := nI_of2 (M := nI n) (n := n) (nI_toInt (by omega)) (Int32.not_lt.mpr h1) h2
  exact ⟨a, by omega, e⟩
/-- what a text tells of a house: gongs, weather told, hears, span, kind, delay -/
def DD (I : gI) : Int32 × Int32 × (Nat → Int32) × (Nat → Int32) × (Nat → Int32) × (Nat → Int32) := (I 8 4, I 8 5, I 9, I 10, I 11, I 12)
/-- a line is done -/
def dl (D : Int32 × Int32 × (Nat → Int32) × (Nat → Int32) × (Nat → Int32) × (Nat → Int32)) (l : Nat × Int32 × Int32 × Int32) : Int32 × Int32 × (Nat → Int32) × (Nat → Int32) × (Nat → Int32) × (Nat → Int32) :=
  if l.1 = 0 then (l.2.1, 0, fl (fun _ => -1) D.2.2.1 10, fl (fun _ => 0) D.2.2.2.1 10, fl (fun _ => 0) D.2.2.2.2.1 10, fl (fun _ => 1) D.2.2.2.2.2 10)
  else if l.1 = 1 then (D.1, D.2.1, va_up D.2.2.1 l.2.1.toNatClampNeg l.2.2.1, va_up D.2.2.2.1 l.2.1.toNatClampNeg l.2.2.2, D.2.2.2.2.1, D.2.2.2.2.2)
  else if l.1 = 2 then (D.1, D.2.1, va_up D.2.2.1 l.2.1.toNatClampNeg (-1), va_up D.2.2.2.1 l.2.1.toNatClampNeg 0, D.2.2.2.2.1, D.2.2.2.2.2)
  else if l.1 < 7 then (D.1, D.2.1, D.2.2.1, D.2.2.2.1, va_up D.2.2.2.2.1 l.2.1.toNatClampNeg (nI (l.1 - 3)), va_up D.2.2.2.2.2 l.2.1.toNatClampNeg l.2.2.1)
  else (D.1, nI (l.1 - 7), D.2.2.1, D.2.2.2.1, D.2.2.2.2.1, D.2.2.2.2.2)
/-- a line read from e on, with G gongs -/
def lnF (t : Nat → Int32) (T e : Nat) (G : Int32) : Bool × Nat × (Nat × Int32 × Int32 × Int32) :=
  if wdN t T (tkS t T e) (tkN t T e) = 10 then (false, tkS t T e, (10, 0, 0, 0))
  else if 7 ≤ wdN t T (tkS t T e) (tkN t T e) then (true, tkN t T e, (wdN t T (tkS t T e) (tkN t T e), 0, 0, 0))
  else if 3 ≤ wdN t T (tkS t T e) (tkN t T e) then
    (if okN t T (tkN t T e) 0 (G - 1) = true then
      (if okN t T (tkN t T (tkN t T e)) 1 20 = true then (true, tkN t T (tkN t T (tkN t T e)), (wdN t T (tkS t T e) (tkN t T e), nuV t T (tkN t T e), nuV t T (tkN t T (tkN t T e)), 0))
      else (false, tkS t T (tkN t T (tkN t T e)), (10, 0, 0, 0)))
    else (false, tkS t T (tkN t T e), (10, 0, 0, 0)))
  else if wdN t T (tkS t T e) (tkN t T e) = 0 then
    (if okN t T (tkN t T e) 2 10 = true then (true, tkN t T (tkN t T e), (0, nuV t T (tkN t T e), 0, 0)) else (false, tkS t T (tkN t T e), (10, 0, 0, 0)))
  else if wdN t T (tkS t T e) (tkN t T e) = 1 then
    (if okN t T (tkN t T e) 0 (G - 1) = true then
      (if okN t T (tkN t T (tkN t T e)) 0 (G - 1) = true ∧ ¬ nuV t T (tkN t T (tkN t T e)) = nuV t T (tkN t T e) then
        (if okN t T (tkN t T (tkN t T (tkN t T e))) 1 9 = true then (true, tkN t T (tkN t T (tkN t T (tkN t T e))), (1, nuV t T (tkN t T e), nuV t T (tkN t T (tkN t T e)), nuV t T (tkN t T (tkN t T (tkN t T e)))))
        else (false, tkS t T (tkN t T (tkN t T (tkN t T e))), (10, 0, 0, 0)))
      else (false, tkS t T (tkN t T (tkN t T e)), (10, 0, 0, 0)))
    else (false, tkS t T (tkN t T e), (10, 0, 0, 0)))
  else (if okN t T (tkN t T e) 0 (G - 1) = true then (true, tkN t T (tkN t T e), (2, nuV t T (tkN t T e), 0, 0)) else (false, tkS t T (tkN t T e), (10, 0, 0, 0)))
/-- reading touches the text's cells and the draft alone -/
def TF (I I' : gI) : Prop := (∀ a, a ≠ 1 → (a < 8 ∨ 12 < a) → I' a = I a) ∧ I' 1 1 = I 1 1 ∧ I' 1 2 = I 1 2
end
