/-! the reference: strike, go, keep, back, seen, count -/
theorem l_and1 (x : Int64) : x &&& 1 = 0 ∨ x &&& 1 = 1 := by
  have h : (x &&& 1).toBitVec.toNat = x.toBitVec.toNat % 2 := by
    show (x.toBitVec &&& (1 : Int64).toBitVec).toNat = _
    rw [BitVec.toNat_and]
    show x.toBitVec.toNat &&& 1 = _
    exact Nat.and_one_is_mod _
  rcases Nat.mod_two_eq_zero_or_one x.toBitVec.toNat with h1 | h1
  · left
    apply Int64.toBitVec_inj.mp
    apply BitVec.eq_of_toNat_eq
    rw [h, h1]
    rfl
  · right
    apply Int64.toBitVec_inj.mp
    apply BitVec.eq_of_toNat_eq
    rw [h, h1]
    rfl
theorem l_ne0 {x : Int64} : (x &&& 1 = 1) = ¬ (x &&& 1 = 0) := by
  apply propext
  constructor
  · intro h e; rw [h] at e; exact absurd e (by decide)
  · intro h; exact (l_and1 x).resolve_left h
theorem bv_m2 : ∀ i, i < 64 → (-2 : Int64).toBitVec.getLsbD i = decide (0 < i) := by decide +kernel
theorem bv_1 : ∀ i, i < 64 → (1 : Int64).toBitVec.getLsbD i = decide (i = 0) := by decide +kernel
theorem l_m2 (x : Int64) : x &&& (-2) = if x &&& 1 = 0 then x else x ^^^ 1 := by
  have hb : x.toBitVec.getLsbD 0 = !decide (x &&& 1 = 0) := by
    have e : (x &&& 1).toBitVec.getLsbD 0 = x.toBitVec.getLsbD 0 := by
      show (x.toBitVec &&& (1 : Int64).toBitVec).getLsbD 0 = _
      rw [BitVec.getLsbD_and, bv_1 0 (by decide)]
      simp
    rw [← e]
    rcases l_and1 x with h | h <;> rw [h] <;> decide
  split
  · rename_i h
    rw [h] at hb
    apply Int64.toBitVec_inj.mp
    apply BitVec.eq_of_getLsbD_eq
    intro i hi
    show (x.toBitVec &&& (-2 : Int64).toBitVec).getLsbD i = _
    rw [BitVec.getLsbD_and, bv_m2 i hi]
    by_cases e : i = 0
    · subst e; rw [hb]; simp
    · simp [show 0 < i by omega]
  · rename_i h
    simp only [h] at hb
    apply Int64.toBitVec_inj.mp
    apply BitVec.eq_of_getLsbD_eq
    intro i hi
    show (x.toBitVec &&& (-2 : Int64).toBitVec).getLsbD i = (x.toBitVec ^^^ (1 : Int64).toBitVec).getLsbD i
    rw [BitVec.getLsbD_and, BitVec.getLsbD_xor, bv_m2 i hi, bv_1 i hi]
    by_cases e : i = 0
    · subst e; rw [hb]; simp
    · simp [show 0 < i by omega, e]
section
variable {Z : gZ} {I : gI} {J : gJ}
/-- a row of doubts: zeros and ones, zero where no doubter is -/
def okO (k o : Nat → Int32) : Prop := ∀ j, j < 10 → (o j = 0 ∨ o j = 1) ∧ (k j ≠ 3 → o j = 0)
theorem okO_odd {h s k o : Nat → Int32} {w : Int32} {q N : Nat} (ho : okO k o) : okO k (fl (oddN h s k o w q) o N) := by
  intro j hj
  obtain ⟨h1, h2⟩ := ho j hj
  unfold fl
  split
  · unfold oddN
    split
    · rename_i hc
      simp only [Bool.and_eq_true, decide_eq_true_eq] at hc
      refine ⟨?_, fun h => absurd hc.2 h⟩
      split
      · exact Or.inr rfl
      · exact Or.inl rfl
    · exact ⟨h1, h2⟩
  · exact ⟨h1, h2⟩
theorem okO_snd {h s k d : Nat → Int32} {w : Int32} {N : Nat} {p : Nat → Bool} {st o : Nat → Int32} {co : Nat → Int64} (ho : okO k o) : ∀ g, okO k (sndA h s k d w N p st o co g).2.1
  | 0 => ho
  | g + 1 => by
    rw [sndA_s]
    split
    · exact okO_odd (okO_snd ho g)
    · exact okO_snd ho g
theorem okO_go {h s k d : Nat → Int32} {w : Int32} {N : Nat} {st o : Nat → Int32} {co : Nat → Int64} (ho : okO k o) : ∀ i, okO k (goA h s k d w N st o co i).2.1
  | 0 => ho
  | i + 1 => okO_snd (okO_go ho i) N
theorem X7_strike_no (hZ : St Z) {N : Nat} (hN : I 38 0 = nI N) (h1 : 1 ≤ N) (h2 : N ≤ 10) {g : Int32} (hg : hasG (nI N) g = false) : g_at 105 0 [.ref 38, .int g] [] Z I J = some (some (.int (-2)), Z, I, J) := by
  simp (decide := true) only [gN1_int, gN1_ref, gN1_null, gN1_long, gTg8_8, gTg8_14, gTg9_9, gTg9_13, gTgA_8, gTgA_9, gTgA_10, gTgA_11, gTgA_13, gTgA_14, gB01_0, gB01_1, gB01_b, List.cons_append, List.nil_append, Option.toList_some, Option.toList_none, Option.bind_some, ↓reduceIte, eq_self, not_true_eq_false, not_false_eq_true, b2i_0, b2i_1, up_eq, up_ne, up_up, up_sort, up_self, fl_at, nI_s, q_105_0, q_105_1, q_105_2, q_105_5, q_105_8, q_105_9, q_105_10, q_105_13, q_105_16, q_105_18, zk_38, zs_38_1, zr_38_1, zs_38_2, zr_38_2, zs_38_3, zr_38_3, zs_38_4, zr_38_4, zs_38_8, zr_38_8, zs_38_17, zr_38_17, zs_38_18, zr_38_18, zs_38_19, zr_38_19, zs_38_22, zr_38_22, zs_38_23, zr_38_23, zs_38_25, zr_38_25, zs_38_26, zr_38_26, zs_38_28, zr_38_28, zs_38_29, zr_38_29, hZ, X7_isGong hZ hN h1 h2, hg]
theorem X7_strike (hZ : St Z) {N q : Nat} {o : Nat → Int32} (hN : I 38 0 = nI N) (hN2 : N ≤ 10) (hq : q < N) (ho : I 38 20 = bitsOf (ob o) 10) (hok : okO (I 41) o) : g_at 105 0 [.ref 38, .int (nI q)] [] Z I J = some (some (.int (bitsOf (willS (I 39) (I 40) (I 41) o (I 38 5) q) N)), Z, va_up (va_up I 38 (va_up (I 38) 20 (bitsOf (ob (fl (oddN (I 39) (I 40) (I 41) o (I 38 5) q) o N)) 10))) 46 (va_up (I 46) q (I 46 q + 1)), va_up J 45 (fl (comeN (I 39) (I 40) (I 41) (I 42) o (I 38 5) (J 45) q) (J 45) N)) := by
  have hg : hasG (nI N) (nI q) = true := (hasG_iff rfl (by omega)).mpr ⟨q, hq, rfl⟩
  simp (decide := true) only [gN1_int, gN1_ref, gN1_null, gN1_long, gTg8_8, gTg8_14, gTg9_9, gTg9_13, gTgA_8, gTgA_9, gTgA_10, gTgA_11, gTgA_13, gTgA_14, gB01_0, gB01_1, gB01_b, List.cons_append, List.nil_append, Option.toList_some, Option.toList_none, Option.bind_some, ↓reduceIte, eq_self, not_true_eq_false, not_false_eq_true, b2i_0, b2i_1, up_eq, up_ne, up_up, up_sort, up_self, fl_at, nI_s, q_105_0, q_105_1, q_105_2, q_105_5, q_105_8, q_105_9, q_105_10, q_105_13, q_105_16, q_105_18, zk_38, zs_38_1, zr_38_1, zs_38_2, zr_38_2, zs_38_3, zr_38_3, zs_38_4, zr_38_4, zs_38_8, zr_38_8, zs_38_17, zr_38_17, zs_38_18, zr_38_18, zs_38_19, zr_38_19, zs_38_22, zr_38_22, zs_38_23, zr_38_23, zs_38_25, zr_38_25, zs_38_26, zr_38_26, zs_38_28, zr_38_28, zs_38_29, zr_38_29, hZ, X7_isGong hZ hN (show 1 ≤ N by omega) hN2, hg, Bool.true_eq_false, X7_sound (q := q) hZ hN hN2 (show q < 10 by omega) ho (fun j hj => (hok j hj).1) (fun j hj => (hok j hj).2)]
theorem cntB_s {p : Nat → Bool} {k : Nat} : cntB p (k + 1) = cntB p k + (if p k = true then 1 else 0) := by rw [cntB]
theorem X7_pass (hZ : St Z) {N : Nat} {o : Nat → Int32} (hN : I 38 0 = nI N) (hN2 : N ≤ 10) (ho : I 38 20 = bitsOf (ob o) 10) (hok : okO (I 41) o) : g_at 106 0 [.ref 38, .null, .null, .null] [] Z I J = some (some (.int (nI (cntB (nowS (J 45)) N))), Z, va_up (va_up I 38 (va_up (va_up (I 38) 20 (bitsOf (ob (minA (I 39) (I 40) (I 41) (I 42) (I 38 5) N (I 46) o (J 45)).2.1) 10)) 21 (I 38 21 + 1))) 46 (minA (I 39) (I 40) (I 41) (I 42) (I 38 5) N (I 46) o (J 45)).1, va_up J 45 (minA (I 39) (I 40) (I 41) (I 42) (I 38 5) N (I 46) o (J 45)).2.2) := by
  have key := loop_eq (fun i => g_at 106 14 [.ref 38, .int (bitsOf (nowS (J 45)) i), .int (nI i), .null] [] Z (va_up I 38 (va_up (I 38) 21 (I 38 21 + 1))) (va_up J 45 (fl (comeP (J 45)) (J 45) i))) (n := N) (fun i hi => by
    obtain ⟨f0, f1, f2⟩ := ixs (j := i) (by omega)
    have f3 : ¬ nI N ≤ nI i := nI_ge hi (by omega)
    have f4 : i < 10 := by omega
    try dsimp only
    rw [q_106_14]
    by_cases h1 : (J 45 i >>> ((1 : Int32).toInt64 &&& 63)) &&& 1 = 0
    · have hc : comeP (J 45) i = J 45 i >>> ((1 : Int32).toInt64 &&& 63) := by simp only [comeP, h1, if_true]
      have hw : nowS (J 45) i = false := by simp only [nowS, h1, decide_true, Bool.not_true]
      simp (decide := true) only [gN1_int, gN1_ref, gN1_null, gN1_long, gTg8_8, gTg8_14, gTg9_9, gTg9_13, gTgA_8, gTgA_9, gTgA_10, gTgA_11, gTgA_13, gTgA_14, gB01_0, gB01_1, gB01_b, List.cons_append, List.nil_append, Option.toList_some, Option.toList_none, Option.bind_some, ↓reduceIte, eq_self, not_true_eq_false, not_false_eq_true, b2i_0, b2i_1, up_eq, up_ne, up_up, up_sort, up_self, fl_at, nI_s, q_106_15, q_106_16, q_106_19, q_106_22, q_106_23, q_106_26, q_106_27, q_106_28, q_106_31, q_106_32, q_106_33, q_106_34, q_106_35, q_106_36, q_106_37, q_106_38, q_106_41, q_106_42, q_106_43, q_106_44, q_106_45, q_106_46, q_106_47, q_106_50, q_106_51, q_106_52, q_106_53, q_106_56, q_106_57, q_106_58, q_106_59, q_106_60, q_106_63, q_106_64, q_106_65, q_106_68, q_106_69, q_106_70, q_106_73, q_106_74, q_106_75, q_106_78, zk_38, zk_45, zs_38_1, zr_38_1, zs_38_2, zr_38_2, zs_38_3, zr_38_3, zs_38_4, zr_38_4, zs_38_8, zr_38_8, zs_38_17, zr_38_17, zs_38_18, zr_38_18, zs_38_19, zr_38_19, zs_38_22, zr_38_22, zs_38_23, zr_38_23, zs_38_25, zr_38_25, zs_38_26, zr_38_26, zs_38_28, zr_38_28, zs_38_29, zr_38_29, hZ, f0, f1, f2, f3, f4, hi, hN, h1, hc, hw, lcmp0, l_ne0, l_m2, fl_next, fl_keep, bitsOf_s, Bool.true_eq_false, Bool.false_eq_true, Int32.or_zero]
    · have hc : comeP (J 45) i = (J 45 i >>> ((1 : Int32).toInt64 &&& 63)) ^^^ 1 := by simp only [comeP, h1, if_false]
      have hw : nowS (J 45) i = true := by simp only [nowS, h1, decide_false, Bool.not_false]
      simp (decide := true) only [gN1_int, gN1_ref, gN1_null, gN1_long, gTg8_8, gTg8_14, gTg9_9, gTg9_13, gTgA_8, gTgA_9, gTgA_10, gTgA_11, gTgA_13, gTgA_14, gB01_0, gB01_1, gB01_b, List.cons_append, List.nil_append, Option.toList_some, Option.toList_none, Option.bind_some, ↓reduceIte, eq_self, not_true_eq_false, not_false_eq_true, b2i_0, b2i_1, up_eq, up_ne, up_up, up_sort, up_self, fl_at, nI_s, q_106_15, q_106_16, q_106_19, q_106_22, q_106_23, q_106_26, q_106_27, q_106_28, q_106_31, q_106_32, q_106_33, q_106_34, q_106_35, q_106_36, q_106_37, q_106_38, q_106_41, q_106_42, q_106_43, q_106_44, q_106_45, q_106_46, q_106_47, q_106_50, q_106_51, q_106_52, q_106_53, q_106_56, q_106_57, q_106_58, q_106_59, q_106_60, q_106_63, q_106_64, q_106_65, q_106_68, q_106_69, q_106_70, q_106_73, q_106_74, q_106_75, q_106_78, zk_38, zk_45, zs_38_1, zr_38_1, zs_38_2, zr_38_2, zs_38_3, zr_38_3, zs_38_4, zr_38_4, zs_38_8, zr_38_8, zs_38_17, zr_38_17, zs_38_18, zr_38_18, zs_38_19, zr_38_19, zs_38_22, zr_38_22, zs_38_23, zr_38_23, zs_38_25, zr_38_25, zs_38_26, zr_38_26, zs_38_28, zr_38_28, zs_38_29, zr_38_29, hZ, f0, f1, f2, f3, f4, hi, hN, h1, hc, hw, lcmp0, l_ne0, l_m2, fl_next, fl_keep, bitsOf_s, Bool.true_eq_false, Bool.false_eq_true])
  have key2 := loop_eq (fun g => g_at 106 85 [.ref 38, .int (bitsOf (nowS (J 45)) N), .int (nI (cntB (nowS (J 45)) g)), .int (nI g)] [] Z (va_up (va_up I 38 (va_up (va_up (I 38) 20 (bitsOf (ob (sndA (I 39) (I 40) (I 41) (I 42) (I 38 5) N (nowS (J 45)) (I 46) o (fl (comeP (J 45)) (J 45) N) g).2.1) 10)) 21 (I 38 21 + 1))) 46 (sndA (I 39) (I 40) (I 41) (I 42) (I 38 5) N (nowS (J 45)) (I 46) o (fl (comeP (J 45)) (J 45) N) g).1) (va_up J 45 (sndA (I 39) (I 40) (I 41) (I 42) (I 38 5) N (nowS (J 45)) (I 46) o (fl (comeP (J 45)) (J 45) N) g).2.2)) (n := N) (fun g hg => by
    obtain ⟨f0, f1, f2⟩ := ixs (j := g) (by omega)
    have f3 : ¬ nI N ≤ nI g := nI_ge hg (by omega)
    have f4 : g < 10 := by omega
    have f5 := bits_bit (p := nowS (J 45)) (n := N) (g := g) (by omega) (by omega)
    rw [decide_eq_true hg, Bool.true_and] at f5
    have hok2 := okO_snd (h := I 39) (s := I 40) (d := I 42) (w := I 38 5) (N := N) (p := nowS (J 45)) (st := I 46) (co := fl (comeP (J 45)) (J 45) N) hok g
    try dsimp only
    rw [q_106_85]
    by_cases h1 : nowS (J 45) g = true
    · have hs := X7_sound (I := va_up (va_up I 38 (va_up (va_up (I 38) 20 (bitsOf (ob (sndA (I 39) (I 40) (I 41) (I 42) (I 38 5) N (nowS (J 45)) (I 46) o (fl (comeP (J 45)) (J 45) N) g).2.1) 10)) 21 (I 38 21 + 1))) 46 (sndA (I 39) (I 40) (I 41) (I 42) (I 38 5) N (nowS (J 45)) (I 46) o (fl (comeP (J 45)) (J 45) N) g).1) (J := va_up J 45 (sndA (I 39) (I 40) (I 41) (I 42) (I 38 5) N (nowS (J 45)) (I 46) o (fl (comeP (J 45)) (J 45) N) g).2.2) (q := g) (o := (sndA (I 39) (I 40) (I 41) (I 42) (I 38 5) N (nowS (J 45)) (I 46) o (fl (comeP (J 45)) (J 45) N) g).2.1) hZ (N := N) (by simp (decide := true) only [up_ne, up_eq, hN]) hN2 f4 (by simp (decide := true) only [up_ne, up_eq]) (fun j hj => (hok2 j hj).1) (fun j hj => by simp (decide := true) only [up_ne, up_eq]; exact (hok2 j hj).2)
      simp (decide := true) only [gN1_int, gN1_ref, gN1_null, gN1_long, gTg8_8, gTg8_14, gTg9_9, gTg9_13, gTgA_8, gTgA_9, gTgA_10, gTgA_11, gTgA_13, gTgA_14, gB01_0, gB01_1, gB01_b, List.cons_append, List.nil_append, Option.toList_some, Option.toList_none, Option.bind_some, ↓reduceIte, eq_self, not_true_eq_false, not_false_eq_true, b2i_0, b2i_1, up_eq, up_ne, up_up, up_sort, up_self, fl_at, nI_s, q_106_86, q_106_87, q_106_90, q_106_93, q_106_94, q_106_95, q_106_98, q_106_101, q_106_102, q_106_103, q_106_106, q_106_107, q_106_110, q_106_113, q_106_116, q_106_117, zk_38, zk_45, zk_46, zs_38_1, zr_38_1, zs_38_2, zr_38_2, zs_38_3, zr_38_3, zs_38_4, zr_38_4, zs_38_8, zr_38_8, zs_38_17, zr_38_17, zs_38_18, zr_38_18, zs_38_19, zr_38_19, zs_38_22, zr_38_22, zs_38_23, zr_38_23, zs_38_25, zr_38_25, zs_38_26, zr_38_26, zs_38_28, zr_38_28, zs_38_29, zr_38_29, hZ, f0, f1, f2, f3, f4, f5, hg, hN, h1, X7_has, hs, sndA_s, cntB_s, Bool.true_eq_false, decide_true]
    · have h1 : nowS (J 45) g = false := by simpa using h1
      simp (decide := true) only [gN1_int, gN1_ref, gN1_null, gN1_long, gTg8_8, gTg8_14, gTg9_9, gTg9_13, gTgA_8, gTgA_9, gTgA_10, gTgA_11, gTgA_13, gTgA_14, gB01_0, gB01_1, gB01_b, List.cons_append, List.nil_append, Option.toList_some, Option.toList_none, Option.bind_some, ↓reduceIte, eq_self, not_true_eq_false, not_false_eq_true, b2i_0, b2i_1, up_eq, up_ne, up_up, up_sort, up_self, fl_at, nI_s, q_106_86, q_106_87, q_106_90, q_106_93, q_106_94, q_106_95, q_106_98, q_106_101, q_106_102, q_106_103, q_106_106, q_106_107, q_106_110, q_106_113, q_106_116, q_106_117, zk_38, zk_45, zk_46, zs_38_1, zr_38_1, zs_38_2, zr_38_2, zs_38_3, zr_38_3, zs_38_4, zr_38_4, zs_38_8, zr_38_8, zs_38_17, zr_38_17, zs_38_18, zr_38_18, zs_38_19, zr_38_19, zs_38_22, zr_38_22, zs_38_23, zr_38_23, zs_38_25, zr_38_25, zs_38_26, zr_38_26, zs_38_28, zr_38_28, zs_38_29, zr_38_29, hZ, f0, f1, f2, f3, f4, f5, hg, hN, h1, X7_has, sndA_s, cntB_s, Bool.false_eq_true, decide_false, Nat.add_zero])
  have e0 : va_up (I 38) 20 (bitsOf (ob o) 10) = I 38 := by rw [← ho]; exact up_self
  simp (decide := true) only [fl_0, up_self, up_self2, nI_0, bitsOf_0, e0, sndA_0, show cntB (nowS (J 45)) 0 = 0 from rfl] at key key2
  simp (decide := true) only [gN1_int, gN1_ref, gN1_null, gN1_long, gTg8_8, gTg8_14, gTg9_9, gTg9_13, gTgA_8, gTgA_9, gTgA_10, gTgA_11, gTgA_13, gTgA_14, gB01_0, gB01_1, gB01_b, List.cons_append, List.nil_append, Option.toList_some, Option.toList_none, Option.bind_some, ↓reduceIte, eq_self, not_true_eq_false, not_false_eq_true, b2i_0, b2i_1, up_eq, up_ne, up_up, up_sort, up_self, fl_at, nI_s, q_106_0, q_106_1, q_106_2, q_106_3, q_106_4, q_106_7, q_106_8, q_106_9, q_106_12, q_106_13, zk_38, zk_45, zs_38_1, zr_38_1, zs_38_2, zr_38_2, zs_38_3, zr_38_3, zs_38_4, zr_38_4, zs_38_8, zr_38_8, zs_38_17, zr_38_17, zs_38_18, zr_38_18, zs_38_19, zr_38_19, zs_38_22, zr_38_22, zs_38_23, zr_38_23, zs_38_25, zr_38_25, zs_38_26, zr_38_26, zs_38_28, zr_38_28, zs_38_29, zr_38_29, hZ]
  rw [key, q_106_14]
  simp (decide := true) only [gN1_int, gN1_ref, gN1_null, gN1_long, gTg8_8, gTg8_14, gTg9_9, gTg9_13, gTgA_8, gTgA_9, gTgA_10, gTgA_11, gTgA_13, gTgA_14, gB01_0, gB01_1, gB01_b, List.cons_append, List.nil_append, Option.toList_some, Option.toList_none, Option.bind_some, ↓reduceIte, eq_self, not_true_eq_false, not_false_eq_true, b2i_0, b2i_1, up_eq, up_ne, up_up, up_sort, up_self, fl_at, nI_s, q_106_15, q_106_16, q_106_19, q_106_22, q_106_23, q_106_26, q_106_27, q_106_28, q_106_31, q_106_32, q_106_33, q_106_34, q_106_35, q_106_36, q_106_37, q_106_38, q_106_41, q_106_42, q_106_43, q_106_44, q_106_45, q_106_46, q_106_47, q_106_50, q_106_51, q_106_52, q_106_53, q_106_56, q_106_57, q_106_58, q_106_59, q_106_60, q_106_63, q_106_64, q_106_65, q_106_68, q_106_69, q_106_70, q_106_73, q_106_74, q_106_75, q_106_78, q_106_81, q_106_82, q_106_83, q_106_84, zk_38, zk_46, zs_38_1, zr_38_1, zs_38_2, zr_38_2, zs_38_3, zr_38_3, zs_38_4, zr_38_4, zs_38_8, zr_38_8, zs_38_17, zr_38_17, zs_38_18, zr_38_18, zs_38_19, zr_38_19, zs_38_22, zr_38_22, zs_38_23, zr_38_23, zs_38_25, zr_38_25, zs_38_26, zr_38_26, zs_38_28, zr_38_28, zs_38_29, zr_38_29, hZ, hN, Int32.le_refl]
  rw [key2, q_106_85]
  simp (decide := true) only [gN1_int, gN1_ref, gN1_null, gN1_long, gTg8_8, gTg8_14, gTg9_9, gTg9_13, gTgA_8, gTgA_9, gTgA_10, gTgA_11, gTgA_13, gTgA_14, gB01_0, gB01_1, gB01_b, List.cons_append, List.nil_append, Option.toList_some, Option.toList_none, Option.bind_some, ↓reduceIte, eq_self, not_true_eq_false, not_false_eq_true, b2i_0, b2i_1, up_eq, up_ne, up_up, up_sort, up_self, fl_at, nI_s, q_106_86, q_106_87, q_106_90, q_106_93, q_106_94, q_106_95, q_106_98, q_106_101, q_106_102, q_106_103, q_106_106, q_106_107, q_106_110, q_106_113, q_106_116, q_106_117, zk_38, zk_46, zs_38_1, zr_38_1, zs_38_2, zr_38_2, zs_38_3, zr_38_3, zs_38_4, zr_38_4, zs_38_8, zr_38_8, zs_38_17, zr_38_17, zs_38_18, zr_38_18, zs_38_19, zr_38_19, zs_38_22, zr_38_22, zs_38_23, zr_38_23, zs_38_25, zr_38_25, zs_38_26, zr_38_26, zs_38_28, zr_38_28, zs_38_29, zr_38_29, hZ, hN, Int32.le_refl, minA]
theorem X7_go (hZ : St Z) {N t : Nat} {o : Nat → Int32} (hN : I 38 0 = nI N) (hN2 : N ≤ 10) (ho : I 38 20 = bitsOf (ob o) 10) (hok : okO (I 41) o) (ht : I 38 21 = nI t) (ht2 : t ≤ 99999) {n : Int32} : g_at 107 0 [.ref 38, .int n, .null, .null] [] Z I J = if n < 1 ∨ 99 < n then some (some (.int (-3)), Z, I, J) else if 99999 < t + n.toNatClampNeg then some (some (.int (-5)), Z, I, J) else some (some (.int (goC (I 39) (I 40) (I 41) (I 42) (I 38 5) N (I 46) o (J 45) n.toNatClampNeg)), Z, va_up (va_up I 38 (va_up (va_up (I 38) 20 (bitsOf (ob (goA (I 39) (I 40) (I 41) (I 42) (I 38 5) N (I 46) o (J 45) n.toNatClampNeg).2.1) 10)) 21 (nI (t + n.toNatClampNeg)))) 46 (goA (I 39) (I 40) (I 41) (I 42) (I 38 5) N (I 46) o (J 45) n.toNatClampNeg).1, va_up J 45 (goA (I 39) (I 40) (I 41) (I 42) (I 38 5) N (I 46) o (J 45) n.toNatClampNeg).2.2) := by
  by_cases h1 : n < 1
  · simp (decide := true) only [gN1_int, gN1_ref, gN1_null, gN1_long, gTg8_8, gTg8_14, gTg9_9, gTg9_13, gTgA_8, gTgA_9, gTgA_10, gTgA_11, gTgA_13, gTgA_14, gB01_0, gB01_1, gB01_b, List.cons_append, List.nil_append, Option.toList_some, Option.toList_none, Option.bind_some, ↓reduceIte, eq_self, not_true_eq_false, not_false_eq_true, b2i_0, b2i_1, up_eq, up_ne, up_up, up_sort, up_self, fl_at, nI_s, q_107_0, q_107_1, q_107_2, q_107_4, q_107_7, q_107_10, q_107_12, q_107_13, q_107_14, q_107_17, q_107_18, q_107_19, q_107_21, q_107_24, q_107_26, q_107_27, q_107_28, q_107_29, q_107_30, q_107_31, q_107_32, q_107_33, q_107_36, q_107_37, q_107_38, q_107_41, q_107_42, q_107_43, q_107_46, q_107_49, q_107_50, X7_in, h1, Int32.not_le.mpr h1, decide_false, Bool.false_and, true_or]
  · by_cases h2 : 99 < n
    · simp (decide := true) only [gN1_int, gN1_ref, gN1_null, gN1_long, gTg8_8, gTg8_14, gTg9_9, gTg9_13, gTgA_8, gTgA_9, gTgA_10, gTgA_11, gTgA_13, gTgA_14, gB01_0, gB01_1, gB01_b, List.cons_append, List.nil_append, Option.toList_some, Option.toList_none, Option.bind_some, ↓reduceIte, eq_self, not_true_eq_false, not_false_eq_true, b2i_0, b2i_1, up_eq, up_ne, up_up, up_sort, up_self, fl_at, nI_s, q_107_0, q_107_1, q_107_2, q_107_4, q_107_7, q_107_10, q_107_12, q_107_13, q_107_14, q_107_17, q_107_18, q_107_19, q_107_21, q_107_24, q_107_26, q_107_27, q_107_28, q_107_29, q_107_30, q_107_31, q_107_32, q_107_33, q_107_36, q_107_37, q_107_38, q_107_41, q_107_42, q_107_43, q_107_46, q_107_49, q_107_50, X7_in, h1, h2, Int32.not_le.mpr h2, decide_false, Bool.and_false, or_true]
    · obtain ⟨m, hm, rfl⟩ := nI_of2 (M := 99) (n := 99) (by decide) (fun q => h1 (Int32.lt_trans q (by decide))) (Int32.not_lt.mp h2)
      have e1 : (nI m).toNatClampNeg = m := nI_clamp (by omega)
      rw [if_neg (by simp [h1, h2]), e1]
      have h1' := Int32.not_lt.mp h1
      have h2' := Int32.not_lt.mp h2
      have e2 : nI t + nI m = nI (t + m) := nI_add t m
      by_cases h3 : 99999 < t + m
      · have f3 : (99999 : Int32) < nI (t + m) := nI_lt (a := 99999) h3 (by omega)
        simp (decide := true) only [gN1_int, gN1_ref, gN1_null, gN1_long, gTg8_8, gTg8_14, gTg9_9, gTg9_13, gTgA_8, gTgA_9, gTgA_10, gTgA_11, gTgA_13, gTgA_14, gB01_0, gB01_1, gB01_b, List.cons_append, List.nil_append, Option.toList_some, Option.toList_none, Option.bind_some, ↓reduceIte, eq_self, not_true_eq_false, not_false_eq_true, b2i_0, b2i_1, up_eq, up_ne, up_up, up_sort, up_self, fl_at, nI_s, q_107_0, q_107_1, q_107_2, q_107_4, q_107_7, q_107_10, q_107_12, q_107_13, q_107_14, q_107_17, q_107_18, q_107_19, q_107_21, q_107_24, q_107_26, q_107_27, q_107_28, q_107_29, q_107_30, q_107_31, q_107_32, q_107_33, q_107_36, q_107_37, q_107_38, q_107_41, q_107_42, q_107_43, q_107_46, q_107_49, q_107_50, zk_38, zs_38_1, zr_38_1, zs_38_2, zr_38_2, zs_38_3, zr_38_3, zs_38_4, zr_38_4, zs_38_8, zr_38_8, zs_38_17, zr_38_17, zs_38_18, zr_38_18, zs_38_19, zr_38_19, zs_38_22, zr_38_22, zs_38_23, zr_38_23, zs_38_25, zr_38_25, zs_38_26, zr_38_26, zs_38_28, zr_38_28, zs_38_29, zr_38_29, hZ, X7_in, h1', h2', h3, ht, e2, Int32.not_le.mpr f3, decide_true, Bool.and_true, Bool.true_eq_false]
      · have f3 : nI (t + m) ≤ (99999 : Int32) := nI_le (b := 99999) (by omega) (by omega)
        have key := loop_eq (fun i => g_at 107 31 [.ref 38, .int (nI m), .int (goC (I 39) (I 40) (I 41) (I 42) (I 38 5) N (I 46) o (J 45) i), .int (nI i)] [] Z (va_up (va_up I 38 (va_up (va_up (I 38) 20 (bitsOf (ob (goA (I 39) (I 40) (I 41) (I 42) (I 38 5) N (I 46) o (J 45) i).2.1) 10)) 21 (nI (t + i)))) 46 (goA (I 39) (I 40) (I 41) (I 42) (I 38 5) N (I 46) o (J 45) i).1) (va_up J 45 (goA (I 39) (I 40) (I 41) (I 42) (I 38 5) N (I 46) o (J 45) i).2.2)) (n := m) (fun i hi => by
          have f4 : ¬ nI m ≤ nI i := nI_ge hi (by omega)
          have hok2 := okO_go (h := I 39) (s := I 40) (d := I 42) (w := I 38 5) (N := N) (st := I 46) (co := J 45) hok i
          have hs := X7_pass (I := va_up (va_up I 38 (va_up (va_up (I 38) 20 (bitsOf (ob (goA (I 39) (I 40) (I 41) (I 42) (I 38 5) N (I 46) o (J 45) i).2.1) 10)) 21 (nI (t + i)))) 46 (goA (I 39) (I 40) (I 41) (I 42) (I 38 5) N (I 46) o (J 45) i).1) (J := va_up J 45 (goA (I 39) (I 40) (I 41) (I 42) (I 38 5) N (I 46) o (J 45) i).2.2) (o := (goA (I 39) (I 40) (I 41) (I 42) (I 38 5) N (I 46) o (J 45) i).2.1) hZ (N := N) (by simp (decide := true) only [up_ne, up_eq, hN]) hN2 (by simp (decide := true) only [up_ne, up_eq]) (by simp (decide := true) only [up_ne, up_eq]; exact hok2)
          try dsimp only
          rw [q_107_31]
          simp (decide := true) only [gN1_int, gN1_ref, gN1_null, gN1_long, gTg8_8, gTg8_14, gTg9_9, gTg9_13, gTgA_8, gTgA_9, gTgA_10, gTgA_11, gTgA_13, gTgA_14, gB01_0, gB01_1, gB01_b, List.cons_append, List.nil_append, Option.toList_some, Option.toList_none, Option.bind_some, ↓reduceIte, eq_self, not_true_eq_false, not_false_eq_true, b2i_0, b2i_1, up_eq, up_ne, up_up, up_sort, up_self, fl_at, nI_s, q_107_0, q_107_1, q_107_2, q_107_4, q_107_7, q_107_10, q_107_12, q_107_13, q_107_14, q_107_17, q_107_18, q_107_19, q_107_21, q_107_24, q_107_26, q_107_27, q_107_28, q_107_29, q_107_30, q_107_32, q_107_33, q_107_36, q_107_37, q_107_38, q_107_41, q_107_42, q_107_43, q_107_46, q_107_49, q_107_50, zk_38, zs_38_1, zr_38_1, zs_38_2, zr_38_2, zs_38_3, zr_38_3, zs_38_4, zr_38_4, zs_38_8, zr_38_8, zs_38_17, zr_38_17, zs_38_18, zr_38_18, zs_38_19, zr_38_19, zs_38_22, zr_38_22, zs_38_23, zr_38_23, zs_38_25, zr_38_25, zs_38_26, zr_38_26, zs_38_28, zr_38_28, zs_38_29, zr_38_29, hZ, f4, hs, goA, goC, Nat.add_assoc])
        have e3 : va_up (va_up (I 38) 20 (bitsOf (ob o) 10)) 21 (nI t) = I 38 := by
          rw [← ho, ← ht, up_self, up_self]
        simp (decide := true) only [goA, goC, nI_0, Nat.add_zero, e3, up_self] at key
        simp (decide := true) only [gN1_int, gN1_ref, gN1_null, gN1_long, gTg8_8, gTg8_14, gTg9_9, gTg9_13, gTgA_8, gTgA_9, gTgA_10, gTgA_11, gTgA_13, gTgA_14, gB01_0, gB01_1, gB01_b, List.cons_append, List.nil_append, Option.toList_some, Option.toList_none, Option.bind_some, ↓reduceIte, eq_self, not_true_eq_false, not_false_eq_true, b2i_0, b2i_1, up_eq, up_ne, up_up, up_sort, up_self, fl_at, nI_s, q_107_0, q_107_1, q_107_2, q_107_4, q_107_7, q_107_10, q_107_12, q_107_13, q_107_14, q_107_17, q_107_18, q_107_19, q_107_21, q_107_24, q_107_26, q_107_27, q_107_28, q_107_29, q_107_30, zk_38, zs_38_1, zr_38_1, zs_38_2, zr_38_2, zs_38_3, zr_38_3, zs_38_4, zr_38_4, zs_38_8, zr_38_8, zs_38_17, zr_38_17, zs_38_18, zr_38_18, zs_38_19, zr_38_19, zs_38_22, zr_38_22, zs_38_23, zr_38_23, zs_38_25, zr_38_25, zs_38_26, zr_38_26, zs_38_28, zr_38_28, zs_38_29, zr_38_29, hZ, X7_in, h1', h2', h3, ht, e2, f3, decide_true, Bool.and_true, Bool.true_eq_false]
        rw [key, q_107_31]
        simp (decide := true) only [gN1_int, gN1_ref, gN1_null, gN1_long, gTg8_8, gTg8_14, gTg9_9, gTg9_13, gTgA_8, gTgA_9, gTgA_10, gTgA_11, gTgA_13, gTgA_14, gB01_0, gB01_1, gB01_b, List.cons_append, List.nil_append, Option.toList_some, Option.toList_none, Option.bind_some, ↓reduceIte, eq_self, not_true_eq_false, not_false_eq_true, b2i_0, b2i_1, up_eq, up_ne, up_up, up_sort, up_self, fl_at, nI_s, q_107_0, q_107_1, q_107_2, q_107_4, q_107_7, q_107_10, q_107_12, q_107_13, q_107_14, q_107_17, q_107_18, q_107_19, q_107_21, q_107_24, q_107_26, q_107_27, q_107_28, q_107_29, q_107_30, q_107_32, q_107_33, q_107_36, q_107_37, q_107_38, q_107_41, q_107_42, q_107_43, q_107_46, q_107_49, q_107_50, zk_38, zs_38_1, zr_38_1, zs_38_2, zr_38_2, zs_38_3, zr_38_3, zs_38_4, zr_38_4, zs_38_8, zr_38_8, zs_38_17, zr_38_17, zs_38_18, zr_38_18, zs_38_19, zr_38_19, zs_38_22, zr_38_22, zs_38_23, zr_38_23, zs_38_25, zr_38_25, zs_38_26, zr_38_26, zs_38_28, zr_38_28, zs_38_29, zr_38_29, hZ, Int32.le_refl]
end
