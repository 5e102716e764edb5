/-! the reference's ODDS -/
section
variable {Z : gZ} {I : gI} {J : gJ} {N : Nat} {w sl : Int32}
/-- Euclid -/
def egO : Nat → Int32 → Int32 → Option Int32
  | 0, _, _ => none
  | f + 1, a, b => if b ≤ 0 then some a else egO f b (a - a / b * b)
theorem X7_odds_eg {c g p b nu de r : Int32} (hr : ¬ r = 0) (f : Nat) : ∀ (x y : Int32) (u : Value), egO f x y = some r → g_at 127 106 [.ref 38, .int c, .int g, .int p, .int b, .int nu, .int de, .int x, .int y, u] [] Z I J = some (some (.int (if b = 0 then nu / r else de / r)), Z, I, J) := by
  induction f with
  | zero => intro x y u h; simp [egO] at h
  | succ f ih =>
    intro x y u h
    rw [egO] at h
    rw [q_127_106]
    by_cases q : y ≤ 0
    · rw [if_pos q] at h
      have e : x = r := Option.some.inj h
      subst e
      by_cases q2 : b = 0
      · simp (decide := true) only [gN1_int, gN1_ref, gN1_null, gN1_long, gTg8_8, gTg8_14, gTg9_9, gTg9_13, gTgA_8, gTgA_9, gTgA_10, gTgA_11, gTgA_13, gTgA_14, gB01_0, gB01_1, gB01_b, List.cons_append, List.nil_append, Option.toList_some, Option.toList_none, Option.bind_some, ↓reduceIte, eq_self, not_true_eq_false, not_false_eq_true, b2i_0, b2i_1, up_eq, up_ne, up_up, up_sort, up_self, fl_at, nI_s, q_127_108, q_127_111, q_127_113, q_127_115, q_127_116, q_127_118, q_127_120, q_127_122, q_127_124, q_127_126, q_127_129, q_127_131, q_127_134, q_127_136, q_127_139, q_127_141, q_127_143, q_127_144, q, q2, hr]
      · simp (decide := true) only [gN1_int, gN1_ref, gN1_null, gN1_long, gTg8_8, gTg8_14, gTg9_9, gTg9_13, gTgA_8, gTgA_9, gTgA_10, gTgA_11, gTgA_13, gTgA_14, gB01_0, gB01_1, gB01_b, List.cons_append, List.nil_append, Option.toList_some, Option.toList_none, Option.bind_some, ↓reduceIte, eq_self, not_true_eq_false, not_false_eq_true, b2i_0, b2i_1, up_eq, up_ne, up_up, up_sort, up_self, fl_at, nI_s, q_127_108, q_127_111, q_127_113, q_127_115, q_127_116, q_127_118, q_127_120, q_127_122, q_127_124, q_127_126, q_127_129, q_127_131, q_127_134, q_127_136, q_127_139, q_127_141, q_127_143, q_127_144, q, q2, hr]
    · rw [if_neg q] at h
      have q3 : ¬ y = 0 := fun e => q (by rw [e]; decide)
      simp (decide := true) only [gN1_int, gN1_ref, gN1_null, gN1_long, gTg8_8, gTg8_14, gTg9_9, gTg9_13, gTgA_8, gTgA_9, gTgA_10, gTgA_11, gTgA_13, gTgA_14, gB01_0, gB01_1, gB01_b, List.cons_append, List.nil_append, Option.toList_some, Option.toList_none, Option.bind_some, ↓reduceIte, eq_self, not_true_eq_false, not_false_eq_true, b2i_0, b2i_1, up_eq, up_ne, up_up, up_sort, up_self, fl_at, nI_s, q_127_108, q_127_111, q_127_113, q_127_115, q_127_116, q_127_118, q_127_120, q_127_122, q_127_124, q_127_126, q_127_129, q_127_131, q_127_134, q_127_136, q_127_139, q_127_141, q_127_143, q_127_144, q, q3]
      exact ih _ _ _ h
theorem X7_odds_walk (hZ : St Z) (h : HM I N w sl) {c : Nat} (hc : c < N) {g p b : Int32} (n : Nat) : ∀ (i a : Nat), a < N → a ≠ c → pth (I 39) (I 40) (I 41) w sl c n a → g_at 127 64 [.ref 38, .int (nI c), .int g, .int p, .int b, .int (pwI (10 - p) i), .int (pwI 10 i), .int (nI a), .null, .null] [] Z I J = g_at 127 98 [.ref 38, .int (nI c), .int g, .int p, .int b, .int (pwI (10 - p) (i + n)), .int (pwI 10 (i + n)), .int (nI c), .null, .null] [] Z I J := by
  obtain ⟨h1, h2, h3, h4, h5⟩ := h
  induction n with
  | zero => intro i a _ _ hp; exact hp.elim
  | succ n ih =>
    intro i a ha hac hp
    obtain ⟨hg, hp2⟩ := hp
    obtain ⟨f0, f1, f2⟩ := ixs (j := a) (by omega)
    have f4 : a < 10 := by omega
    have q' : ¬ nI a = nI c := fun z => hac ((nI_eq (by omega) (by omega)).mp z)
    obtain ⟨e1, e2⟩ := gd_hn h3 h2 f4 hg
    have p1 : pwI (10 - p) i * (10 - p) = pwI (10 - p) (i + 1) := by rw [pwI]
    have p2 : pwI 10 i * 10 = pwI 10 (i + 1) := by rw [pwI]
    rw [q_127_64]
    rcases hp2 with ⟨e3, e4⟩ | ⟨e3, e4⟩
    · subst e3
      rw [e4] at e1
      simp (decide := true) only [gN1_int, gN1_ref, gN1_null, gN1_long, gTg8_8, gTg8_14, gTg9_9, gTg9_13, gTgA_8, gTgA_9, gTgA_10, gTgA_11, gTgA_13, gTgA_14, gB01_0, gB01_1, gB01_b, List.cons_append, List.nil_append, Option.toList_some, Option.toList_none, Option.bind_some, ↓reduceIte, eq_self, not_true_eq_false, not_false_eq_true, b2i_0, b2i_1, up_eq, up_ne, up_up, up_sort, up_self, fl_at, nI_s, q_127_66, q_127_67, q_127_70, q_127_72, q_127_74, q_127_75, q_127_76, q_127_77, q_127_79, q_127_81, q_127_83, q_127_84, q_127_86, q_127_87, q_127_90, q_127_92, q_127_93, q_127_95, zk_38, zk_39, zs_38_1, zr_38_1, zs_38_2, zr_38_2, zs_38_3, zr_38_3, zs_38_4, zr_38_4, zs_38_8, zr_38_8, zs_38_17, zr_38_17, zs_38_18, zr_38_18, zs_38_19, zr_38_19, zs_38_22, zr_38_22, zs_38_23, zr_38_23, zs_38_25, zr_38_25, zs_38_26, zr_38_26, zs_38_28, zr_38_28, zs_38_29, zr_38_29, hZ, f0, f1, f2, f4, q', e1, p1, p2]
      rw [q_127_64]
      simp (decide := true) only [gN1_int, gN1_ref, gN1_null, gN1_long, gTg8_8, gTg8_14, gTg9_9, gTg9_13, gTgA_8, gTgA_9, gTgA_10, gTgA_11, gTgA_13, gTgA_14, gB01_0, gB01_1, gB01_b, List.cons_append, List.nil_append, Option.toList_some, Option.toList_none, Option.bind_some, ↓reduceIte, eq_self, not_true_eq_false, not_false_eq_true, b2i_0, b2i_1, up_eq, up_ne, up_up, up_sort, up_self, fl_at, nI_s, q_127_66, q_127_67, Nat.zero_add, Nat.add_zero]
    · simp (decide := true) only [gN1_int, gN1_ref, gN1_null, gN1_long, gTg8_8, gTg8_14, gTg9_9, gTg9_13, gTgA_8, gTgA_9, gTgA_10, gTgA_11, gTgA_13, gTgA_14, gB01_0, gB01_1, gB01_b, List.cons_append, List.nil_append, Option.toList_some, Option.toList_none, Option.bind_some, ↓reduceIte, eq_self, not_true_eq_false, not_false_eq_true, b2i_0, b2i_1, up_eq, up_ne, up_up, up_sort, up_self, fl_at, nI_s, q_127_66, q_127_67, q_127_70, q_127_72, q_127_74, q_127_75, q_127_76, q_127_77, q_127_79, q_127_81, q_127_83, q_127_84, q_127_86, q_127_87, q_127_90, q_127_92, q_127_93, q_127_95, zk_38, zk_39, zs_38_1, zr_38_1, zs_38_2, zr_38_2, zs_38_3, zr_38_3, zs_38_4, zr_38_4, zs_38_8, zr_38_8, zs_38_17, zr_38_17, zs_38_18, zr_38_18, zs_38_19, zr_38_19, zs_38_22, zr_38_22, zs_38_23, zr_38_23, zs_38_25, zr_38_25, zs_38_26, zr_38_26, zs_38_28, zr_38_28, zs_38_29, zr_38_29, hZ, f0, f1, f2, f4, q', e1, p1, p2]
      rw [ih (i + 1) _ e2 e3 e4, show i + 1 + n = i + (n + 1) by omega]
end
