/-! the law's start -/
section
variable {I : gI} {J : gJ}
/-- what the class's object holds at first -/
def FA (I I' : gI) (J' : gJ) (z : Nat) : Prop := (∀ a, z ≤ a → I' a = I a) ∧ I' 1 = (fun _ => 0) ∧ I' 2 = (fun _ => 0) ∧ I' 3 4 = 4 ∧ I' 3 5 = 0 ∧ I' 4 = fl (fun _ => -1) (fun _ => 0) 10 ∧ I' 5 = (fun _ => 0) ∧ I' 6 = (fun _ => 0) ∧ I' 7 = fl (fun _ => 1) (fun _ => 0) 10 ∧ I' 13 = (fun _ => 0) ∧ I' 15 = (fun _ => 0) ∧ I' 16 = (fun _ => 0) ∧ I' 21 = (fun _ => 0) ∧ I' 25 = (fun _ => 0) ∧ I' 26 = (fun _ => 0) ∧ I' 27 = (fun _ => 0) ∧ J' 14 = (fun _ => 0)
theorem mk_A1 {g : Nat → Nat × Nat} {m : Nat} : ∃ m' I' J', g_at 52 0 [.ref 0, .null] [] (1, m, fl kT g 1, RF_0) I J = g_at 52 105 [.ref 0, .int 2] [.ref 30, .ref 30, .ref 0] (31, m', fl kT g 31, RF_29) I' J' ∧ m' ≤ m + 2000 ∧ FA I I' J' 31 := by
  apply Exists.intro
  apply Exists.intro
  apply Exists.intro
  refine ⟨?eq, ?pm, ?pa⟩
  case eq =>
    simp (decide := true) only [gN1_int, gN1_ref, gN1_null, gN1_long, gTg8_8, gTg8_14, gTg9_9, gTg9_13, gTgA_8, gTgA_9, gTgA_10, gTgA_11, gTgA_13, gTgA_14, gB01_0, gB01_1, gB01_b, List.cons_append, List.nil_append, Option.toList_some, Option.toList_none, Option.bind_some, ↓reduceIte, eq_self, not_true_eq_false, not_false_eq_true, b2i_0, b2i_1, up_eq, up_ne, up_up, up_sort, up_self, fl_at, nI_s, q_52_0, q_52_1, q_52_4, q_52_5, q_52_8, q_52_9, q_52_12, q_52_15, q_52_16, q_52_19, q_52_20, q_52_23, q_52_26, q_52_27, q_52_30, q_52_31, q_52_34, q_52_37, q_52_38, q_52_41, q_52_42, q_52_45, q_52_48, q_52_49, q_52_50, q_52_53, q_52_56, q_52_57, q_52_58, q_52_59, q_52_60, q_52_63, q_52_64, q_52_67, q_52_68, q_52_71, q_52_72, q_52_75, q_52_76, q_52_79, q_52_82, q_52_83, q_52_84, q_52_86, q_52_89, q_52_90, q_52_93, q_52_94, q_52_97, q_52_100, q_52_101, q_52_104, mT_1, mC_3, mC_8, mM_13, mM_18, mM_22, mS_27, Nat.reduceAdd, gKd_t, gRs_t, gRq_t, kl, cn_0, cn_1, cn_2, cn_8, cn_10, cn_16, cn_46, cn_48, cn_100, cn_200, Option.isSome_some, Option.getD_some, show (0 : Int32) + 1 = 1 from rfl, show (1 : Int32) + 1 = 2 from rfl, kn_0, kT_0, kn_1, kT_1, kn_3, kT_3, kn_8, kT_8, kn_13, kT_13, kn_17, kT_17, kn_18, kT_18, kn_22, kT_22, kn_26, kT_26, kn_27, kT_27, kn_30, kT_30, rn_1, rn_3, rn_8, rn_13, rn_17, rn_18, rn_22, rn_26, rn_27, rn_30, rp_1, rp_6, rp_11, rp_15, rp_16, rp_20, rp_24, rp_25, rp_28, rg_17_0_4, rg_21_0_4]
    rfl
  case pm =>
    omega
  case pa =>
    unfold FA
    simp (decide := true) only [up_eq, up_ne, and_true]
    intro a ha
    repeat rw [up_ne (by omega)]
theorem mk_A {g : Nat → Nat × Nat} {m : Nat} : ∃ m' I' J', g_at 52 0 [.ref 0, .null] [] (1, m, fl kT g 1, RF_0) I J = some (none, (38, m', fl kT g 38, RF_37), I', J') ∧ m' ≤ m + 3000 ∧ FA I I' J' 38 := by
  obtain ⟨m1, I1, J1, e1, hm, ha⟩ := mk_A1 (I := I) (J := J) (g := g) (m := m)
  obtain ⟨I2, J2, e2, f1, f2⟩ := mF_30 (I := I1) (J := J1) (g := g) (m := m1)
  refine ⟨m1 + 6 + 10 + 10 + 10 + 10 + 3 + 3, I2, J2, ?_, by omega, ?_⟩
  · rw [e1]
    simp (decide := true) only [gN1_int, gN1_ref, gN1_null, gN1_long, gTg8_8, gTg8_14, gTg9_9, gTg9_13, gTgA_8, gTgA_9, gTgA_10, gTgA_11, gTgA_13, gTgA_14, gB01_0, gB01_1, gB01_b, List.cons_append, List.nil_append, Option.toList_some, Option.toList_none, Option.bind_some, ↓reduceIte, eq_self, not_true_eq_false, not_false_eq_true, b2i_0, b2i_1, up_eq, up_ne, up_up, up_sort, up_self, fl_at, nI_s, q_52_105, q_52_108, q_52_111, e2, Nat.reduceAdd, gKd_t, gRs_t, gRq_t, kl, cn_0, cn_1, cn_2, cn_8, cn_10, cn_16, cn_46, cn_48, cn_100, cn_200, Option.isSome_some, Option.getD_some, show (0 : Int32) + 1 = 1 from rfl, show (1 : Int32) + 1 = 2 from rfl, kn_0, kT_0, rp_36]
  · unfold FA at ha ⊢
    rw [f1 1 (by omega), f1 2 (by omega), f1 3 (by omega), f1 4 (by omega), f1 5 (by omega), f1 6 (by omega), f1 7 (by omega), f1 13 (by omega), f1 15 (by omega), f1 16 (by omega), f1 21 (by omega), f1 25 (by omega), f1 26 (by omega), f1 27 (by omega), f2 14 (by omega)]
    exact ⟨fun a h => by rw [f1 a (by omega), ha.1 a (by omega)], ha.2⟩
theorem mk_B1 {g : Nat → Nat × Nat} {m : Nat} (h38 : I 38 = fun _ => 0) : ∃ m' I' J', g_at 82 0 [.ref 38] [] (39, m, fl kT g 39, RF_37) I J = g_at 82 128 [.ref 38] [.int 4, .ref 38] (53, m', fl kT g 53, RF_51) I' J' ∧ m' ≤ m + 2000 ∧ (∀ a, (a < 38 ∨ 53 ≤ a) → I' a = I a) ∧ (∀ a, (a < 38 ∨ 53 ≤ a) → J' a = J a) ∧ I' 38 = va_up (va_up (fun _ => 0) 0 4) 27 (-1) ∧ (∀ a, 39 ≤ a → a < 53 → I' a = (fun _ => 0)) ∧ J' 45 = (fun _ => 0) := by
  apply Exists.intro
  apply Exists.intro
  apply Exists.intro
  refine ⟨?eq, ?pm, ?pa, ?pb, ?pc, ?pd, ?pe⟩
  case eq =>
    simp (decide := true) only [gN1_int, gN1_ref, gN1_null, gN1_long, gTg8_8, gTg8_14, gTg9_9, gTg9_13, gTgA_8, gTgA_9, gTgA_10, gTgA_11, gTgA_13, gTgA_14, gB01_0, gB01_1, gB01_b, List.cons_append, List.nil_append, Option.toList_some, Option.toList_none, Option.bind_some, ↓reduceIte, eq_self, not_true_eq_false, not_false_eq_true, b2i_0, b2i_1, up_eq, up_ne, up_up, up_sort, up_self, fl_at, nI_s, q_82_0, q_82_1, q_82_4, q_82_5, q_82_6, q_82_9, q_82_10, q_82_12, q_82_14, q_82_17, q_82_18, q_82_20, q_82_22, q_82_25, q_82_26, q_82_28, q_82_30, q_82_33, q_82_34, q_82_36, q_82_38, q_82_41, q_82_42, q_82_45, q_82_47, q_82_50, q_82_51, q_82_53, q_82_55, q_82_58, q_82_59, q_82_61, q_82_63, q_82_66, q_82_67, q_82_69, q_82_71, q_82_74, q_82_75, q_82_77, q_82_79, q_82_82, q_82_83, q_82_84, q_82_86, q_82_89, q_82_90, q_82_92, q_82_94, q_82_97, q_82_98, q_82_100, q_82_102, q_82_105, q_82_106, q_82_107, q_82_110, q_82_111, q_82_113, q_82_115, q_82_118, q_82_119, q_82_121, q_82_123, q_82_126, q_82_127, Nat.reduceAdd, gKd_t, gRs_t, gRq_t, kl, cn_0, cn_1, cn_2, cn_8, cn_10, cn_16, cn_46, cn_48, cn_100, cn_200, Option.isSome_some, Option.getD_some, show (0 : Int32) + 1 = 1 from rfl, show (1 : Int32) + 1 = 2 from rfl, h38, kn_38, kT_38, kn_39, kT_39, kn_40, kT_40, kn_41, kT_41, kn_42, kT_42, kn_43, kT_43, kn_44, kT_44, kn_45, kT_45, kn_46, kT_46, kn_47, kT_47, kn_48, kT_48, kn_49, kT_49, kn_50, kT_50, kn_51, kT_51, kn_52, kT_52, rn_39, rn_40, rn_41, rn_42, rn_43, rn_44, rn_45, rn_46, rn_47, rn_48, rn_49, rn_50, rn_51, rn_52, rp_37, rp_38, rp_39, rp_40, rp_41, rp_42, rp_43, rp_44, rp_45, rp_46, rp_47, rp_48, rp_49, rp_50]
    rfl
  case pm =>
    omega
  case pa =>
    intro a ha
    repeat rw [up_ne (by omega)]
  case pb =>
    intro a ha
    repeat rw [up_ne (by omega)]
  case pc =>
    simp (decide := true) only [up_eq, up_ne]
  case pd =>
    intro a h1 h2
    rcases (by omega : a = 39 ∨ a = 40 ∨ a = 41 ∨ a = 42 ∨ a = 43 ∨ a = 44 ∨ a = 45 ∨ a = 46 ∨ a = 47 ∨ a = 48 ∨ a = 49 ∨ a = 50 ∨ a = 51 ∨ a = 52) with rfl | rfl | rfl | rfl | rfl | rfl | rfl | rfl | rfl | rfl | rfl | rfl | rfl | rfl <;> simp (decide := true) only [up_eq, up_ne]
  case pe =>
    simp (decide := true) only [up_eq, up_ne]
end
