/-! the reference: numbers and lines -/
section
variable {Z : gZ} {I : gI} {J : gJ}
/-- reading touches the reader's cells alone -/
def MF (I I' : gI) (J J' : gJ) : Prop := (∀ a, a ≠ 38 → a ≠ 44 → I' a = I a) ∧ (∀ k, k < 9 ∨ 14 < k → I' 38 k = I 38 k) ∧ (∀ a, a ≠ 38 → J' a = J a)
theorem mf_trans {I1 I2 I3 : gI} {J1 J2 J3 : gJ} (h1 : MF I1 I2 J1 J2) (h2 : MF I2 I3 J2 J3) : MF I1 I3 J1 J3 := ⟨fun a q1 q2 => (h2.1 a q1 q2).trans (h1.1 a q1 q2), fun k q => (h2.2.1 k q).trans (h1.2.1 k q), fun a q => (h2.2.2 a q).trans (h1.2.2 a q)⟩
theorem mf_0 {p s x y : Int32} {v : Int64} : MF I (va_up I 38 (va_up (va_up (va_up (va_up (I 38) 9 (p)) 10 (s)) 12 (x)) 13 (y))) J (va_up J 38 (va_up (J 38) 11 (v))) := ⟨fun a h1 _ => up_ne h1, fun k h => by rw [up_eq, up_ne (by omega), up_ne (by omega), up_ne (by omega), up_ne (by omega)], fun a h => up_ne h⟩
theorem mf_44 {f : Nat → Int32} : MF I (va_up I 44 f) J J := ⟨fun a _ h => up_ne h, fun k _ => by rw [up_ne (by decide)], fun _ _ => rfl⟩
theorem mf_14 {v : Int32} : MF I (va_up I 38 (va_up (I 38) 14 v)) J J := ⟨fun a h _ => up_ne h, fun k h => by rw [up_eq, up_ne (by omega)], fun _ _ => rfl⟩
theorem X7_fails (hZ : St Z) : g_at 90 0 [.ref 38] [] Z I J = some (some (.int 0), Z, va_up I 38 (va_up (I 38) 14 (I 38 10)), J) := by
  simp (decide := true) only [gN1_int, gN1_ref, gN1_null, gN1_long, gTg8_8, gTg8_14, gTg9_9, gTg9_13, gTgA_8, gTgA_9, gTgA_10, gTgA_11, gTgA_13, gTgA_14, gB01_0, gB01_1, gB01_b, List.cons_append, List.nil_append, Option.toList_some, Option.toList_none, Option.bind_some, ↓reduceIte, eq_self, not_true_eq_false, not_false_eq_true, b2i_0, b2i_1, up_eq, up_ne, up_up, up_sort, up_self, fl_at, nI_s, q_90_0, q_90_1, q_90_2, q_90_5, q_90_8, q_90_9, zk_38, zs_38_1, zr_38_1, zs_38_2, zr_38_2, zs_38_3, zr_38_3, zs_38_4, zr_38_4, zs_38_8, zr_38_8, zs_38_17, zr_38_17, zs_38_18, zr_38_18, zs_38_19, zr_38_19, zs_38_22, zr_38_22, zs_38_23, zr_38_23, zs_38_25, zr_38_25, zs_38_26, zr_38_26, zs_38_28, zr_38_28, zs_38_29, zr_38_29, hZ]
/-- a number, read to place w -/
def NR (t : Nat → Int32) (T e w : Nat) (ok : Bool) (I I' : gI) (J J' : gJ) : Prop := MF I I' J J' ∧ I' 38 9 = nI (tkN t T e) ∧ I' 38 10 = nI (tkS t T e) ∧ (ok = true → I' 44 = va_up (I 44) w (nuV t T e)) ∧ (ok = false → I' 38 14 = nI (tkS t T e) ∧ I' 44 = I 44)
theorem X7_isNumber (hZ : St Z) {T e w : Nat} (hT : I 38 7 = nI T) (hT2 : T ≤ 200) (he : I 38 9 = nI e) (he2 : e ≤ T) (hw : w < 48) {lo hi : Int32} : ∃ I' J', g_at 91 0 [.ref 38, .int (nI w), .int lo, .int hi] [] Z I J = some (some (.int (b2i (okN (I 43) T e lo hi))), Z, I', J') ∧ NR (I 43) T e w (okN (I 43) T e lo hi) I I' J J' := by
  have ht := X7_nextToken (J := J) hZ hT hT2 he he2
  obtain ⟨-, b1, b2, b3⟩ := tk_le (I 43) he2
  obtain ⟨g0, g1, g2⟩ := ixs (j := w) (by omega)
  have hn := tk_num (t := I 43) b1
  have hok : okN (I 43) T e lo hi = ((isD (byN (I 43) T (tkS (I 43) T e)) && decide (tkE (I 43) T (tkS (I 43) T e) - tkS (I 43) T e ≤ 2)) && (decide (lo ≤ nvI (I 43) (tkS (I 43) T e) (tkE (I 43) T (tkS (I 43) T e) - tkS (I 43) T e)) && decide (nvI (I 43) (tkS (I 43) T e) (tkE (I 43) T (tkS (I 43) T e) - tkS (I 43) T e) ≤ hi))) := rfl
  have hnu : nuV (I 43) T e = nvI (I 43) (tkS (I 43) T e) (tkE (I 43) T (tkS (I 43) T e) - tkS (I 43) T e) := rfl
  rcases hn with ⟨n1, n2, n3, n4⟩ | ⟨n1, n2⟩
  · rw [n2, decide_eq_true n3, Bool.true_and, Bool.true_and, ← hnu] at hok
    rw [← hnu] at n4
    rw [n1, n4] at ht
    cases q : (decide (lo ≤ nuV (I 43) T e) && decide (nuV (I 43) T e ≤ hi))
    · rw [q] at hok
      rw [hok]
      refine ⟨va_up (va_up I 38 (va_up (va_up (va_up (va_up (I 38) 9 (nI (tkN (I 43) T e))) 10 (nI (tkS (I 43) T e))) 12 (tkD (I 43) T (tkS (I 43) T e))) 13 (nuV (I 43) T e))) 38 (va_up (va_up (va_up (va_up (va_up (I 38) 9 (nI (tkN (I 43) T e))) 10 (nI (tkS (I 43) T e))) 12 (tkD (I 43) T (tkS (I 43) T e))) 13 (nuV (I 43) T e)) 14 (nI (tkS (I 43) T e))), va_up J 38 (va_up (J 38) 11 (-1)), ?_, ⟨⟨fun a h1 _ => by rw [up_ne h1, up_ne h1], fun k h => by rw [up_eq, up_ne (by omega), up_ne (by omega), up_ne (by omega), up_ne (by omega), up_ne (by omega)], fun a h => up_ne h⟩, ?_, ?_, fun z => b_ft z, fun _ => ⟨?_, ?_⟩⟩⟩
      · simp (decide := true) only [gN1_int, gN1_ref, gN1_null, gN1_long, gTg8_8, gTg8_14, gTg9_9, gTg9_13, gTgA_8, gTgA_9, gTgA_10, gTgA_11, gTgA_13, gTgA_14, gB01_0, gB01_1, gB01_b, List.cons_append, List.nil_append, Option.toList_some, Option.toList_none, Option.bind_some, ↓reduceIte, eq_self, not_true_eq_false, not_false_eq_true, b2i_0, b2i_1, up_eq, up_ne, up_up, up_sort, up_self, fl_at, nI_s, q_91_0, q_91_1, q_91_4, q_91_5, q_91_8, q_91_11, q_91_12, q_91_15, q_91_16, q_91_19, q_91_20, q_91_21, q_91_24, q_91_27, q_91_28, q_91_31, q_91_32, q_91_33, q_91_36, q_91_37, q_91_38, q_91_41, q_91_42, q_91_43, zk_38, zk_44, zs_38_1, zr_38_1, zs_38_2, zr_38_2, zs_38_3, zr_38_3, zs_38_4, zr_38_4, zs_38_8, zr_38_8, zs_38_17, zr_38_17, zs_38_18, zr_38_18, zs_38_19, zr_38_19, zs_38_22, zr_38_22, zs_38_23, zr_38_23, zs_38_25, zr_38_25, zs_38_26, zr_38_26, zs_38_28, zr_38_28, zs_38_29, zr_38_29, hZ, ht, lcmp0, X7_in, q, X7_fails hZ]
        rfl
      · simp (decide := true) only [up_eq, up_ne]
      · simp (decide := true) only [up_eq, up_ne]
      · simp (decide := true) only [up_eq, up_ne]
      · simp (decide := true) only [up_eq, up_ne]
    · rw [q] at hok
      rw [hok]
      refine ⟨va_up (va_up I 38 (va_up (va_up (va_up (va_up (I 38) 9 (nI (tkN (I 43) T e))) 10 (nI (tkS (I 43) T e))) 12 (tkD (I 43) T (tkS (I 43) T e))) 13 (nuV (I 43) T e))) 44 (va_up (I 44) w (nuV (I 43) T e)), va_up J 38 (va_up (J 38) 11 (-1)), ?_, ⟨⟨fun a h1 h2 => by rw [up_ne h2, up_ne h1], fun k h => by rw [up_ne (by decide), up_eq, up_ne (by omega), up_ne (by omega), up_ne (by omega), up_ne (by omega)], fun a h => up_ne h⟩, ?_, ?_, fun _ => ?_, fun z => b_tf z⟩⟩
      · simp (decide := true) only [gN1_int, gN1_ref, gN1_null, gN1_long, gTg8_8, gTg8_14, gTg9_9, gTg9_13, gTgA_8, gTgA_9, gTgA_10, gTgA_11, gTgA_13, gTgA_14, gB01_0, gB01_1, gB01_b, List.cons_append, List.nil_append, Option.toList_some, Option.toList_none, Option.bind_some, ↓reduceIte, eq_self, not_true_eq_false, not_false_eq_true, b2i_0, b2i_1, up_eq, up_ne, up_up, up_sort, up_self, fl_at, nI_s, q_91_0, q_91_1, q_91_4, q_91_5, q_91_8, q_91_11, q_91_12, q_91_15, q_91_16, q_91_19, q_91_20, q_91_21, q_91_24, q_91_27, q_91_28, q_91_31, q_91_32, q_91_33, q_91_36, q_91_37, q_91_38, q_91_41, q_91_42, q_91_43, zk_38, zk_44, zs_38_1, zr_38_1, zs_38_2, zr_38_2, zs_38_3, zr_38_3, zs_38_4, zr_38_4, zs_38_8, zr_38_8, zs_38_17, zr_38_17, zs_38_18, zr_38_18, zs_38_19, zr_38_19, zs_38_22, zr_38_22, zs_38_23, zr_38_23, zs_38_25, zr_38_25, zs_38_26, zr_38_26, zs_38_28, zr_38_28, zs_38_29, zr_38_29, hZ, ht, lcmp0, X7_in, q, g0, g1, g2, hw, Bool.true_eq_false]
        rfl
      · simp (decide := true) only [up_eq, up_ne]
      · simp (decide := true) only [up_eq, up_ne]
      · simp (decide := true) only [up_eq, up_ne]
  · have hok2 : okN (I 43) T e lo hi = false := by
      rw [hok]
      cases q : isD (byN (I 43) T (tkS (I 43) T e))
      · simp
      · have q3 : ¬ tkE (I 43) T (tkS (I 43) T e) - tkS (I 43) T e ≤ 2 := fun z => n2 ⟨q, z⟩
        simp [q3]
    rw [hok2]
    generalize tkT (I 43) T (tkS (I 43) T e) = tv at ht n1
    generalize tkV (I 43) T (tkS (I 43) T e) = nv at ht
    refine ⟨va_up (va_up I 38 (va_up (va_up (va_up (va_up (I 38) 9 (nI (tkN (I 43) T e))) 10 (nI (tkS (I 43) T e))) 12 (tkD (I 43) T (tkS (I 43) T e))) 13 (nv))) 38 (va_up (va_up (va_up (va_up (va_up (I 38) 9 (nI (tkN (I 43) T e))) 10 (nI (tkS (I 43) T e))) 12 (tkD (I 43) T (tkS (I 43) T e))) 13 nv) 14 (nI (tkS (I 43) T e))), va_up J 38 (va_up (J 38) 11 (tv)), ?_, ⟨⟨fun a h1 _ => by rw [up_ne h1, up_ne h1], fun k h => by rw [up_eq, up_ne (by omega), up_ne (by omega), up_ne (by omega), up_ne (by omega), up_ne (by omega)], fun a h => up_ne h⟩, ?_, ?_, fun z => b_ft z, fun _ => ⟨?_, ?_⟩⟩⟩
    · simp (decide := true) only [gN1_int, gN1_ref, gN1_null, gN1_long, gTg8_8, gTg8_14, gTg9_9, gTg9_13, gTgA_8, gTgA_9, gTgA_10, gTgA_11, gTgA_13, gTgA_14, gB01_0, gB01_1, gB01_b, List.cons_append, List.nil_append, Option.toList_some, Option.toList_none, Option.bind_some, ↓reduceIte, eq_self, not_true_eq_false, not_false_eq_true, b2i_0, b2i_1, up_eq, up_ne, up_up, up_sort, up_self, fl_at, nI_s, q_91_0, q_91_1, q_91_4, q_91_5, q_91_8, q_91_11, q_91_12, q_91_15, q_91_16, q_91_19, q_91_20, q_91_21, q_91_24, q_91_27, q_91_28, q_91_31, q_91_32, q_91_33, q_91_36, q_91_37, q_91_38, q_91_41, q_91_42, q_91_43, zk_38, zk_44, zs_38_1, zr_38_1, zs_38_2, zr_38_2, zs_38_3, zr_38_3, zs_38_4, zr_38_4, zs_38_8, zr_38_8, zs_38_17, zr_38_17, zs_38_18, zr_38_18, zs_38_19, zr_38_19, zs_38_22, zr_38_22, zs_38_23, zr_38_23, zs_38_25, zr_38_25, zs_38_26, zr_38_26, zs_38_28, zr_38_28, zs_38_29, zr_38_29, hZ, ht, lcmp0, n1, X7_fails hZ]
      rfl
    · simp (decide := true) only [up_eq, up_ne]
    · simp (decide := true) only [up_eq, up_ne]
    · simp (decide := true) only [up_eq, up_ne]
    · simp (decide := true) only [up_eq, up_ne]
theorem X7_isThere (hZ : St Z) {T e w : Nat} {G : Int32} (hT : I 38 7 = nI T) (hT2 : T ≤ 200) (he : I 38 9 = nI e) (he2 : e ≤ T) (hw : w < 48) (hG : I 38 16 = G) : ∃ I' J', g_at 92 0 [.ref 38, .int (nI w)] [] Z I J = some (some (.int (b2i (okN (I 43) T e 0 (G - 1)))), Z, I', J') ∧ NR (I 43) T e w (okN (I 43) T e 0 (G - 1)) I I' J J' := by
  obtain ⟨I', J', r1, r2⟩ := X7_isNumber (J := J) hZ hT hT2 he he2 hw (lo := 0) (hi := G - 1)
  refine ⟨I', J', ?_, r2⟩
  simp (decide := true) only [gN1_int, gN1_ref, gN1_null, gN1_long, gTg8_8, gTg8_14, gTg9_9, gTg9_13, gTgA_8, gTgA_9, gTgA_10, gTgA_11, gTgA_13, gTgA_14, gB01_0, gB01_1, gB01_b, List.cons_append, List.nil_append, Option.toList_some, Option.toList_none, Option.bind_some, ↓reduceIte, eq_self, not_true_eq_false, not_false_eq_true, b2i_0, b2i_1, up_eq, up_ne, up_up, up_sort, up_self, fl_at, nI_s, q_92_0, q_92_1, q_92_2, q_92_3, q_92_4, q_92_7, q_92_8, q_92_9, q_92_12, zk_38, zs_38_1, zr_38_1, zs_38_2, zr_38_2, zs_38_3, zr_38_3, zs_38_4, zr_38_4, zs_38_8, zr_38_8, zs_38_17, zr_38_17, zs_38_18, zr_38_18, zs_38_19, zr_38_19, zs_38_22, zr_38_22, zs_38_23, zr_38_23, zs_38_25, zr_38_25, zs_38_26, zr_38_26, zs_38_28, zr_38_28, zs_38_29, zr_38_29, hZ, hG, r1]
end
