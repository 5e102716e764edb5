/-! what was seen, and what is foretold -/
section
variable {Z : gZ} {I : gI} {J : gJ}
/-- all from i on, f of them -/
def alB (p : Nat → Bool) : Nat → Nat → Bool
  | 0, _ => true
  | f + 1, i => p i && alB p f (i + 1)
theorem alB_iff {p : Nat → Bool} (f : Nat) : ∀ i : Nat, alB p f i = true ↔ ∀ j, i ≤ j → j < i + f → p j = true := by
  induction f with
  | zero => intro i; exact ⟨fun _ j h1 h2 => absurd h2 (by omega), fun _ => rfl⟩
  | succ f ih =>
    intro i
    rw [alB, Bool.and_eq_true, ih]
    constructor
    · intro ⟨h1, h2⟩ j h3 h4
      by_cases e : j = i
      · rw [e]; exact h1
      · exact h2 j (by omega) (by omega)
    · intro h1
      exact ⟨h1 i (by omega) (by omega), fun j h2 h3 => h1 j (by omega) (by omega)⟩
/-- the sighting i agrees with these strikers -/
def agP (g st : Nat → Int32) (x : Int32) (i : Nat) : Bool := decide (st i = if (x >>> (g i &&& 31)) &&& 1 = 0 then 0 else 1)
theorem X3_agreeWith (hZ : St Z) {x : Int32} {m : Nat} (hm : I 27 2 = nI m) (hm2 : m ≤ 8) : g_at 33 0 [.ref 27, .int x, .null] [] Z I J = some (some (.int (b2i (alB (agP (I 28) (I 29) x) m 0))), Z, I, J) := by
  have key : ∀ f i, i + f = m → g_at 33 2 [.ref 27, .int x, .int (nI i)] [] Z I J = some (some (.int (b2i (alB (agP (I 28) (I 29) x) f i))), Z, I, J) := by
    intro f
    induction f with
    | zero =>
      intro i hi
      have e : i = m := by omega
      subst e
      rw [q_33_2, alB]
      simp (decide := true) only [gN1_int, gN1_ref, gN1_null, gN1_long, gTg8_8, gTg8_14, gTg9_9, gTg9_13, gTgA_8, gTgA_9, gTgA_10, gTgA_11, gTgA_13, gTgA_14, gB01_0, gB01_1, gB01_b, List.cons_append, List.nil_append, Option.toList_some, Option.toList_none, Option.bind_some, ↓reduceIte, eq_self, not_true_eq_false, not_false_eq_true, b2i_0, b2i_1, up_eq, up_ne, up_up, up_sort, up_self, fl_at, nI_s, q_33_0, q_33_1, q_33_3, q_33_4, q_33_7, q_33_10, q_33_11, q_33_14, q_33_15, q_33_16, q_33_17, q_33_18, q_33_21, q_33_22, q_33_23, q_33_24, q_33_25, q_33_26, q_33_29, q_33_30, q_33_33, q_33_34, q_33_37, q_33_38, q_33_39, q_33_42, q_33_45, q_33_46, zk_27, zs_27_0, zr_27_0, zs_27_1, zr_27_1, hZ, hm, Int32.le_refl]
      rfl
    | succ f ih =>
      intro i hi
      obtain ⟨f0, f1, f2⟩ := ixs (j := i) (by omega)
      have f3 : ¬ nI m ≤ nI i := nI_ge (by omega) (by omega)
      have f4 : i < 8 := by omega
      have ih' := ih (i + 1) (by omega)
      rw [q_33_2, alB]
      by_cases h1 : (x >>> (I 28 i &&& 31)) &&& 1 = 0
      · by_cases h2 : I 29 i = 0
        · have hp : agP (I 28) (I 29) x i = true := by simp [agP, h1, h2]
          simp (decide := true) only [gN1_int, gN1_ref, gN1_null, gN1_long, gTg8_8, gTg8_14, gTg9_9, gTg9_13, gTgA_8, gTgA_9, gTgA_10, gTgA_11, gTgA_13, gTgA_14, gB01_0, gB01_1, gB01_b, List.cons_append, List.nil_append, Option.toList_some, Option.toList_none, Option.bind_some, ↓reduceIte, eq_self, not_true_eq_false, not_false_eq_true, b2i_0, b2i_1, up_eq, up_ne, up_up, up_sort, up_self, fl_at, nI_s, q_33_0, q_33_1, q_33_3, q_33_4, q_33_7, q_33_10, q_33_11, q_33_14, q_33_15, q_33_16, q_33_17, q_33_18, q_33_21, q_33_22, q_33_23, q_33_24, q_33_25, q_33_26, q_33_29, q_33_30, q_33_33, q_33_34, q_33_37, q_33_38, q_33_39, q_33_42, q_33_45, q_33_46, zk_27, zk_28, zk_29, zs_27_0, zr_27_0, zs_27_1, zr_27_1, hZ, f0, f1, f2, f3, f4, hm, h1, h2, hp, ih', Bool.true_and]
        · have hp : agP (I 28) (I 29) x i = false := by simp [agP, h1, h2]
          simp (decide := true) only [gN1_int, gN1_ref, gN1_null, gN1_long, gTg8_8, gTg8_14, gTg9_9, gTg9_13, gTgA_8, gTgA_9, gTgA_10, gTgA_11, gTgA_13, gTgA_14, gB01_0, gB01_1, gB01_b, List.cons_append, List.nil_append, Option.toList_some, Option.toList_none, Option.bind_some, ↓reduceIte, eq_self, not_true_eq_false, not_false_eq_true, b2i_0, b2i_1, up_eq, up_ne, up_up, up_sort, up_self, fl_at, nI_s, q_33_0, q_33_1, q_33_3, q_33_4, q_33_7, q_33_10, q_33_11, q_33_14, q_33_15, q_33_16, q_33_17, q_33_18, q_33_21, q_33_22, q_33_23, q_33_24, q_33_25, q_33_26, q_33_29, q_33_30, q_33_33, q_33_34, q_33_37, q_33_38, q_33_39, q_33_42, q_33_45, q_33_46, zk_27, zk_28, zk_29, zs_27_0, zr_27_0, zs_27_1, zr_27_1, hZ, f0, f1, f2, f3, f4, hm, h1, h2, hp, Bool.false_and]
          rfl
      · by_cases h2 : I 29 i = 1
        · have hp : agP (I 28) (I 29) x i = true := by simp [agP, h1, h2]
          simp (decide := true) only [gN1_int, gN1_ref, gN1_null, gN1_long, gTg8_8, gTg8_14, gTg9_9, gTg9_13, gTgA_8, gTgA_9, gTgA_10, gTgA_11, gTgA_13, gTgA_14, gB01_0, gB01_1, gB01_b, List.cons_append, List.nil_append, Option.toList_some, Option.toList_none, Option.bind_some, ↓reduceIte, eq_self, not_true_eq_false, not_false_eq_true, b2i_0, b2i_1, up_eq, up_ne, up_up, up_sort, up_self, fl_at, nI_s, q_33_0, q_33_1, q_33_3, q_33_4, q_33_7, q_33_10, q_33_11, q_33_14, q_33_15, q_33_16, q_33_17, q_33_18, q_33_21, q_33_22, q_33_23, q_33_24, q_33_25, q_33_26, q_33_29, q_33_30, q_33_33, q_33_34, q_33_37, q_33_38, q_33_39, q_33_42, q_33_45, q_33_46, zk_27, zk_28, zk_29, zs_27_0, zr_27_0, zs_27_1, zr_27_1, hZ, f0, f1, f2, f3, f4, hm, h1, h2, hp, ih', Bool.true_and]
        · have hp : agP (I 28) (I 29) x i = false := by simp [agP, h1, h2]
          simp (decide := true) only [gN1_int, gN1_ref, gN1_null, gN1_long, gTg8_8, gTg8_14, gTg9_9, gTg9_13, gTgA_8, gTgA_9, gTgA_10, gTgA_11, gTgA_13, gTgA_14, gB01_0, gB01_1, gB01_b, List.cons_append, List.nil_append, Option.toList_some, Option.toList_none, Option.bind_some, ↓reduceIte, eq_self, not_true_eq_false, not_false_eq_true, b2i_0, b2i_1, up_eq, up_ne, up_up, up_sort, up_self, fl_at, nI_s, q_33_0, q_33_1, q_33_3, q_33_4, q_33_7, q_33_10, q_33_11, q_33_14, q_33_15, q_33_16, q_33_17, q_33_18, q_33_21, q_33_22, q_33_23, q_33_24, q_33_25, q_33_26, q_33_29, q_33_30, q_33_33, q_33_34, q_33_37, q_33_38, q_33_39, q_33_42, q_33_45, q_33_46, zk_27, zk_28, zk_29, zs_27_0, zr_27_0, zs_27_1, zr_27_1, hZ, f0, f1, f2, f3, f4, hm, h1, h2, hp, Bool.false_and]
          rfl
  simp (decide := true) only [gN1_int, gN1_ref, gN1_null, gN1_long, gTg8_8, gTg8_14, gTg9_9, gTg9_13, gTgA_8, gTgA_9, gTgA_10, gTgA_11, gTgA_13, gTgA_14, gB01_0, gB01_1, gB01_b, List.cons_append, List.nil_append, Option.toList_some, Option.toList_none, Option.bind_some, ↓reduceIte, eq_self, not_true_eq_false, not_false_eq_true, b2i_0, b2i_1, up_eq, up_ne, up_up, up_sort, up_self, fl_at, nI_s, q_33_0, q_33_1]
  rw [← nI_0]
  exact key m 0 (by omega)
end
