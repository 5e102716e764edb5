/-! the reference's ASLEEP -/
section
variable {Z : gZ} {I : gI} {J : gJ} {N : Nat} {w sl : Int32}
def alC (p : Nat → Bool) : Nat → Bool
  | 0 => true
  | k + 1 => alC p k && p k
theorem alC_iff {p : Nat → Bool} (n : Nat) : alC p n = true ↔ ∀ j, j < n → p j = true := by
  induction n with
  | zero => exact ⟨fun _ j hj => absurd hj (by omega), fun _ => rfl⟩
  | succ n ih =>
    rw [alC, Bool.and_eq_true, ih]
    constructor
    · intro ⟨h1, h2⟩ j hj
      by_cases e : j = n
      · rw [e]; exact h2
      · exact h1 j (by omega)
    · intro h1
      exact ⟨fun j hj => h1 j (by omega), h1 n (by omega)⟩
def soP (s : Nat → Int32) (x : Int32) (i : Nat) : Bool := decide ((x >>> (s (2 * i) &&& 31)) &&& 1 = s (2 * i + 1))
theorem X7_isSo (hZ : St Z) (h : HM I N w sl) {c m : Nat} (hc : c < N) (hm : I 38 24 = nI m) (hm2 : m ≤ 8) : g_at 130 0 [.ref 38, .int (nI c), .null, .null, .null] [] Z I J = some (some (.int (b2i (alC (soP (I 49) (bitsOf (whoP (I 39) (I 40) (I 41) (I 42) w sl N c) N)) m))), Z, va_up I 50 (fl (mtF (I 39) (I 40) (I 41) (I 42) w sl N c) (I 50) N), J) := by
  have hly := X7_layFirst (J := J) hZ h hc
  generalize fl (mtF (I 39) (I 40) (I 41) (I 42) w sl N c) (I 50) N = f at hly ⊢
  generalize bitsOf (whoP (I 39) (I 40) (I 41) (I 42) w sl N c) N = x at hly ⊢
  have key := loop_eq (fun k => g_at 130 11 [.ref 38, .int (nI c), .int x, .int (b2i (alC (soP (I 49) x) k)), .int (nI k)] [] Z (va_up I 50 f) J) (n := m) (fun k hk => by
    have f3 : ¬ nI m ≤ nI k := nI_ge hk (by omega)
    have e2 : (2 : Int32) * nI k = nI (2 * k) := by rw [show (2 : Int32) = nI 2 from rfl, pk_mul]
    obtain ⟨f0, f1, f2⟩ := ixs (j := 2 * k) (by omega)
    obtain ⟨g0, g1, g2⟩ := ixs (j := 2 * k + 1) (by omega)
    have f4 : 2 * k < 16 := by omega
    have g4 : 2 * k + 1 < 16 := by omega
    try dsimp only
    rw [q_130_11, alC]
    cases q1 : alC (soP (I 49) x) k
    · simp (decide := true) only [gN1_int, gN1_ref, gN1_null, gN1_long, gTg8_8, gTg8_14, gTg9_9, gTg9_13, gTgA_8, gTgA_9, gTgA_10, gTgA_11, gTgA_13, gTgA_14, gB01_0, gB01_1, gB01_b, List.cons_append, List.nil_append, Option.toList_some, Option.toList_none, Option.bind_some, ↓reduceIte, eq_self, not_true_eq_false, not_false_eq_true, b2i_0, b2i_1, up_eq, up_ne, up_up, up_sort, up_self, fl_at, nI_s, q_130_0, q_130_1, q_130_2, q_130_5, q_130_6, q_130_7, q_130_8, q_130_9, q_130_13, q_130_14, q_130_17, q_130_20, q_130_21, q_130_24, q_130_25, q_130_26, q_130_29, q_130_30, q_130_32, q_130_33, q_130_34, q_130_35, q_130_36, q_130_37, q_130_38, q_130_41, q_130_42, q_130_44, q_130_45, q_130_46, q_130_47, q_130_48, q_130_51, q_130_52, q_130_55, q_130_56, q_130_57, q_130_60, q_130_63, q_130_64, zk_38, zk_49, zs_38_1, zr_38_1, zs_38_2, zr_38_2, zs_38_3, zr_38_3, zs_38_4, zr_38_4, zs_38_8, zr_38_8, zs_38_17, zr_38_17, zs_38_18, zr_38_18, zs_38_19, zr_38_19, zs_38_22, zr_38_22, zs_38_23, zr_38_23, zs_38_25, zr_38_25, zs_38_26, zr_38_26, zs_38_28, zr_38_28, zs_38_29, zr_38_29, hZ, hm, f3, Bool.false_and]
      rfl
    · by_cases q2 : (x >>> (I 49 (2 * k) &&& 31)) &&& 1 = I 49 (2 * k + 1)
      · have hp : soP (I 49) x k = true := by simp [soP, q2]
        simp (decide := true) only [gN1_int, gN1_ref, gN1_null, gN1_long, gTg8_8, gTg8_14, gTg9_9, gTg9_13, gTgA_8, gTgA_9, gTgA_10, gTgA_11, gTgA_13, gTgA_14, gB01_0, gB01_1, gB01_b, List.cons_append, List.nil_append, Option.toList_some, Option.toList_none, Option.bind_some, ↓reduceIte, eq_self, not_true_eq_false, not_false_eq_true, b2i_0, b2i_1, up_eq, up_ne, up_up, up_sort, up_self, fl_at, nI_s, q_130_0, q_130_1, q_130_2, q_130_5, q_130_6, q_130_7, q_130_8, q_130_9, q_130_13, q_130_14, q_130_17, q_130_20, q_130_21, q_130_24, q_130_25, q_130_26, q_130_29, q_130_30, q_130_32, q_130_33, q_130_34, q_130_35, q_130_36, q_130_37, q_130_38, q_130_41, q_130_42, q_130_44, q_130_45, q_130_46, q_130_47, q_130_48, q_130_51, q_130_52, q_130_55, q_130_56, q_130_57, q_130_60, q_130_63, q_130_64, zk_38, zk_49, zs_38_1, zr_38_1, zs_38_2, zr_38_2, zs_38_3, zr_38_3, zs_38_4, zr_38_4, zs_38_8, zr_38_8, zs_38_17, zr_38_17, zs_38_18, zr_38_18, zs_38_19, zr_38_19, zs_38_22, zr_38_22, zs_38_23, zr_38_23, zs_38_25, zr_38_25, zs_38_26, zr_38_26, zs_38_28, zr_38_28, zs_38_29, zr_38_29, hZ, hm, f0, f1, f2, f3, f4, g0, g1, g2, g4, e2, q2, hp, Bool.true_and, Bool.true_eq_false]
        rfl
      · have hp : soP (I 49) x k = false := by simp [soP, q2]
        simp (decide := true) only [gN1_int, gN1_ref, gN1_null, gN1_long, gTg8_8, gTg8_14, gTg9_9, gTg9_13, gTgA_8, gTgA_9, gTgA_10, gTgA_11, gTgA_13, gTgA_14, gB01_0, gB01_1, gB01_b, List.cons_append, List.nil_append, Option.toList_some, Option.toList_none, Option.bind_some, ↓reduceIte, eq_self, not_true_eq_false, not_false_eq_true, b2i_0, b2i_1, up_eq, up_ne, up_up, up_sort, up_self, fl_at, nI_s, q_130_0, q_130_1, q_130_2, q_130_5, q_130_6, q_130_7, q_130_8, q_130_9, q_130_13, q_130_14, q_130_17, q_130_20, q_130_21, q_130_24, q_130_25, q_130_26, q_130_29, q_130_30, q_130_32, q_130_33, q_130_34, q_130_35, q_130_36, q_130_37, q_130_38, q_130_41, q_130_42, q_130_44, q_130_45, q_130_46, q_130_47, q_130_48, q_130_51, q_130_52, q_130_55, q_130_56, q_130_57, q_130_60, q_130_63, q_130_64, zk_38, zk_49, zs_38_1, zr_38_1, zs_38_2, zr_38_2, zs_38_3, zr_38_3, zs_38_4, zr_38_4, zs_38_8, zr_38_8, zs_38_17, zr_38_17, zs_38_18, zr_38_18, zs_38_19, zr_38_19, zs_38_22, zr_38_22, zs_38_23, zr_38_23, zs_38_25, zr_38_25, zs_38_26, zr_38_26, zs_38_28, zr_38_28, zs_38_29, zr_38_29, hZ, hm, f0, f1, f2, f3, f4, g0, g1, g2, g4, e2, q2, hp, Bool.true_and, Bool.true_eq_false]
        rfl)
  have k0 : b2i (alC (soP (I 49) x) 0) = 1 := rfl
  simp only [k0, nI_0] at key
  simp (decide := true) only [gN1_int, gN1_ref, gN1_null, gN1_long, gTg8_8, gTg8_14, gTg9_9, gTg9_13, gTgA_8, gTgA_9, gTgA_10, gTgA_11, gTgA_13, gTgA_14, gB01_0, gB01_1, gB01_b, List.cons_append, List.nil_append, Option.toList_some, Option.toList_none, Option.bind_some, ↓reduceIte, eq_self, not_true_eq_false, not_false_eq_true, b2i_0, b2i_1, up_eq, up_ne, up_up, up_sort, up_self, fl_at, nI_s, q_130_0, q_130_1, q_130_2, q_130_5, q_130_6, q_130_7, q_130_8, q_130_9, zk_38, zs_38_1, zr_38_1, zs_38_2, zr_38_2, zs_38_3, zr_38_3, zs_38_4, zr_38_4, zs_38_8, zr_38_8, zs_38_17, zr_38_17, zs_38_18, zr_38_18, zs_38_19, zr_38_19, zs_38_22, zr_38_22, zs_38_23, zr_38_23, zs_38_25, zr_38_25, zs_38_26, zr_38_26, zs_38_28, zr_38_28, zs_38_29, zr_38_29, hZ, hly]
  rw [key, q_130_11]
  simp (decide := true) only [gN1_int, gN1_ref, gN1_null, gN1_long, gTg8_8, gTg8_14, gTg9_9, gTg9_13, gTgA_8, gTgA_9, gTgA_10, gTgA_11, gTgA_13, gTgA_14, gB01_0, gB01_1, gB01_b, List.cons_append, List.nil_append, Option.toList_some, Option.toList_none, Option.bind_some, ↓reduceIte, eq_self, not_true_eq_false, not_false_eq_true, b2i_0, b2i_1, up_eq, up_ne, up_up, up_sort, up_self, fl_at, nI_s, q_130_0, q_130_1, q_130_2, q_130_5, q_130_6, q_130_7, q_130_8, q_130_9, q_130_13, q_130_14, q_130_17, q_130_20, q_130_21, q_130_24, q_130_25, q_130_26, q_130_29, q_130_30, q_130_32, q_130_33, q_130_34, q_130_35, q_130_36, q_130_37, q_130_38, q_130_41, q_130_42, q_130_44, q_130_45, q_130_46, q_130_47, q_130_48, q_130_51, q_130_52, q_130_55, q_130_56, q_130_57, q_130_60, q_130_63, q_130_64, zk_38, zs_38_1, zr_38_1, zs_38_2, zr_38_2, zs_38_3, zr_38_3, zs_38_4, zr_38_4, zs_38_8, zr_38_8, zs_38_17, zr_38_17, zs_38_18, zr_38_18, zs_38_19, zr_38_19, zs_38_22, zr_38_22, zs_38_23, zr_38_23, zs_38_25, zr_38_25, zs_38_26, zr_38_26, zs_38_28, zr_38_28, zs_38_29, zr_38_29, hZ, hm, Int32.le_refl]
end
