/-! words -/
section
variable {Z : gZ} {I : gI} {J : gJ}
def TX (I : gI) : Prop := ∀ i, I (1030 + i) = fun j => (g_txB.getD i []).getD j 0
def wl (i : Nat) : Nat := g_txL.getD i 0
def wb (i j : Nat) : Int32 := (g_txB.getD i []).getD j 0
theorem zk_w (h : St Z) {i : Nat} (hi : i < 10) : gKd Z (1010 + i) = (12, i) ∧ gKd Z (1010 + i + 20) = (13, wl i) := by
  match i, hi with
  | 0, _ => exact ⟨zk_1010 h, zk_1030 h⟩
  | 1, _ => exact ⟨zk_1011 h, zk_1031 h⟩
  | 2, _ => exact ⟨zk_1012 h, zk_1032 h⟩
  | 3, _ => exact ⟨zk_1013 h, zk_1033 h⟩
  | 4, _ => exact ⟨zk_1014 h, zk_1034 h⟩
  | 5, _ => exact ⟨zk_1015 h, zk_1035 h⟩
  | 6, _ => exact ⟨zk_1016 h, zk_1036 h⟩
  | 7, _ => exact ⟨zk_1017 h, zk_1037 h⟩
  | 8, _ => exact ⟨zk_1018 h, zk_1038 h⟩
  | 9, _ => exact ⟨zk_1019 h, zk_1039 h⟩
  | n + 10, q => exact absurd q (by omega)
theorem wb_ch : ∀ i, i < 10 → ∀ j, j < wl i → ((wb i j &&& 255).toUInt32 % 65536).toInt32 = wb i j ∧ narrow .char (.int (wb i j)) = .int (wb i j) := by decide +kernel
theorem wl_le : ∀ i, i < 10 → wl i ≤ 8 ∧ 1 ≤ wl i := by decide
theorem J0_length {a n : Nat} (h1 : (gKd Z a).1 = 12) (h2 : 1000 ≤ a) (h3 : gKd Z (a + 20) = (13, n)) (hn : n < 1000) : g_at 134 0 [.ref a] [] Z I J = some (some (.int (nI n)), Z, I, J) := by
  have h4 : 1000 ≤ a + 20 := by omega
  have e : Int32.ofNat n >>> ((0 : Int32) &&& 31) = nI n := by
    have q := shr_nI (n := n) (k := 0) (by omega) (by omega)
    rw [nI_0] at q
    rw [show Int32.ofNat n = nI n from rfl, q, Nat.pow_zero, Nat.div_one]
  simp (decide := true) only [gN1_int, gN1_ref, gN1_null, gN1_long, gTg8_8, gTg8_14, gTg9_9, gTg9_13, gTgA_8, gTgA_9, gTgA_10, gTgA_11, gTgA_13, gTgA_14, gB01_0, gB01_1, gB01_b, List.cons_append, List.nil_append, Option.toList_some, Option.toList_none, Option.bind_some, ↓reduceIte, eq_self, not_true_eq_false, not_false_eq_true, b2i_0, b2i_1, up_eq, up_ne, up_up, up_sort, up_self, fl_at, nI_s, q_134_0, q_134_1, q_134_4, q_134_5, q_134_6, q_134_9, q_134_10, q_136_0, q_136_3, q_136_6, q_136_7, q_136_10, q_136_13, q_136_14, h1, h2, h3, h4, e]
theorem J0_charAt {a n j : Nat} {b : Int32} (h1 : (gKd Z a).1 = 12) (h2 : 1000 ≤ a) (h3 : gKd Z (a + 20) = (13, n)) (hn : n < 1000) (hj : j < n) (hb : I (a + 20) j = b) (e1 : ((b &&& 255).toUInt32 % 65536).toInt32 = b) (e2 : narrow .char (.int b) = .int b) : g_at 135 0 [.ref a, .int (nI j)] [] Z I J = some (some (.int b), Z, I, J) := by
  have h4 : 1000 ≤ a + 20 := by omega
  obtain ⟨f0, f1, f2⟩ := ixs (j := j) (by omega)
  have f3 : nI j < Int32.ofNat n := nI_lt (b := n) hj (by omega)
  simp (decide := true) only [gN1_int, gN1_ref, gN1_null, gN1_long, gTg8_8, gTg8_14, gTg9_9, gTg9_13, gTgA_8, gTgA_9, gTgA_10, gTgA_11, gTgA_13, gTgA_14, gB01_0, gB01_1, gB01_b, List.cons_append, List.nil_append, Option.toList_some, Option.toList_none, Option.bind_some, ↓reduceIte, eq_self, not_true_eq_false, not_false_eq_true, b2i_0, b2i_1, up_eq, up_ne, up_up, up_sort, up_self, fl_at, nI_s, q_135_0, q_135_1, q_135_4, q_135_7, q_135_8, q_135_11, q_135_12, q_135_15, q_135_16, q_135_17, q_135_20, q_135_24, q_137_0, q_137_3, q_137_6, q_137_7, q_137_10, q_137_13, q_137_14, q_137_17, q_137_18, q_139_0, q_139_1, q_139_2, q_139_3, q_139_6, q_139_7, q_139_8, q_139_9, q_139_12, q_139_13, q_139_14, q_138_0, q_138_1, q_138_2, q_138_5, q_138_8, q_138_9, q_141_0, q_141_1, q_141_4, q_141_5, q_141_6, q_141_9, q_141_10, q_141_11, q_141_16, q_141_17, h1, h2, h3, h4, hj, hb, e1, e2, f0, f1, f2, f3]
/-- the token from s to e is the word i -/
def isW (t : Nat → Int32) (T s e i : Nat) : Bool := decide (e - s = wl i) && alB (fun j => decide (byN t T (s + j) = wb i j)) (wl i) 0
theorem X4_tokenIs (hZ : St Z) (hX : TX I) {T s e i : Nat} (hT : I 1 1 = nI T) (hT2 : T ≤ 200) (hs : I 1 3 = nI s) (he : I 1 4 = nI e) (hse : s ≤ e) (heT : e ≤ T) (hi : i < 10) : g_at 45 0 [.ref 1, .ref (1010 + i), .null] [] Z I J = some (some (.int (b2i (isW (I 2) T s e i))), Z, I, J) := by
  obtain ⟨z1, z2⟩ := zk_w hZ hi
  have z1' : (gKd Z (1010 + i)).1 = 12 := by rw [z1]
  have z3 : 1000 ≤ 1010 + i := by omega
  obtain ⟨l1, l2⟩ := wl_le i hi
  have hl := J0_length (I := I) (J := J) z1' z3 z2 (by omega)
  have hc : ∀ j, j < wl i → g_at 135 0 [.ref (1010 + i), .int (nI j)] [] Z I J = some (some (.int (wb i j)), Z, I, J) := fun j hj => J0_charAt z1' z3 z2 (by omega) hj (by rw [show 1010 + i + 20 = 1030 + i by omega, hX i]; rfl) (wb_ch i hi j hj).1 (wb_ch i hi j hj).2
  have key : ∀ f j, j + f = wl i → g_at 45 20 [.ref 1, .ref (1010 + i), .int (nI j)] [] Z I J = some (some (.int (b2i (alB (fun j => decide (byN (I 2) T (s + j) = wb i j)) f j))), Z, I, J) := by
    intro f
    induction f with
    | zero =>
      intro j hj
      have ej : j = wl i := by omega
      subst ej
      rw [q_45_20, alB]
      simp (decide := true) only [gN1_int, gN1_ref, gN1_null, gN1_long, gTg8_8, gTg8_14, gTg9_9, gTg9_13, gTgA_8, gTgA_9, gTgA_10, gTgA_11, gTgA_13, gTgA_14, gB01_0, gB01_1, gB01_b, List.cons_append, List.nil_append, Option.toList_some, Option.toList_none, Option.bind_some, ↓reduceIte, eq_self, not_true_eq_false, not_false_eq_true, b2i_0, b2i_1, up_eq, up_ne, up_up, up_sort, up_self, fl_at, nI_s, q_45_0, q_45_1, q_45_4, q_45_5, q_45_8, q_45_9, q_45_10, q_45_13, q_45_16, q_45_17, q_45_18, q_45_19, q_45_21, q_45_22, q_45_25, q_45_28, q_45_29, q_45_30, q_45_33, q_45_34, q_45_35, q_45_38, q_45_39, q_45_40, q_45_43, q_45_46, q_45_47, q_45_48, q_45_51, q_45_54, q_45_55, hl, z1', z3, Int32.le_refl]
      rfl
    | succ f ih =>
      intro j hj
      have f3 : ¬ nI (wl i) ≤ nI j := nI_ge (by omega) (by omega)
      have ih' := ih (j + 1) (by omega)
      have hb := X4_byteAt (I := I) (J := J) hZ hT hT2 (i := s + j) (by omega)
      have hcj := hc j (by omega)
      have e3 : nI s + nI j = nI (s + j) := nI_ad s j
      rw [q_45_20, alB]
      by_cases q : byN (I 2) T (s + j) = wb i j
      · rw [q] at hb
        simp (decide := true) only [gN1_int, gN1_ref, gN1_null, gN1_long, gTg8_8, gTg8_14, gTg9_9, gTg9_13, gTgA_8, gTgA_9, gTgA_10, gTgA_11, gTgA_13, gTgA_14, gB01_0, gB01_1, gB01_b, List.cons_append, List.nil_append, Option.toList_some, Option.toList_none, Option.bind_some, ↓reduceIte, eq_self, not_true_eq_false, not_false_eq_true, b2i_0, b2i_1, up_eq, up_ne, up_up, up_sort, up_self, fl_at, nI_s, q_45_0, q_45_1, q_45_4, q_45_5, q_45_8, q_45_9, q_45_10, q_45_13, q_45_16, q_45_17, q_45_18, q_45_19, q_45_21, q_45_22, q_45_25, q_45_28, q_45_29, q_45_30, q_45_33, q_45_34, q_45_35, q_45_38, q_45_39, q_45_40, q_45_43, q_45_46, q_45_47, q_45_48, q_45_51, q_45_54, q_45_55, zk_1, zs_1_0, zr_1_0, hZ, hl, hs, z1', z3, f3, hb, hcj, e3, ih', q, decide_true, Bool.true_and]
      · simp (decide := true) only [gN1_int, gN1_ref, gN1_null, gN1_long, gTg8_8, gTg8_14, gTg9_9, gTg9_13, gTgA_8, gTgA_9, gTgA_10, gTgA_11, gTgA_13, gTgA_14, gB01_0, gB01_1, gB01_b, List.cons_append, List.nil_append, Option.toList_some, Option.toList_none, Option.bind_some, ↓reduceIte, eq_self, not_true_eq_false, not_false_eq_true, b2i_0, b2i_1, up_eq, up_ne, up_up, up_sort, up_self, fl_at, nI_s, q_45_0, q_45_1, q_45_4, q_45_5, q_45_8, q_45_9, q_45_10, q_45_13, q_45_16, q_45_17, q_45_18, q_45_19, q_45_21, q_45_22, q_45_25, q_45_28, q_45_29, q_45_30, q_45_33, q_45_34, q_45_35, q_45_38, q_45_39, q_45_40, q_45_43, q_45_46, q_45_47, q_45_48, q_45_51, q_45_54, q_45_55, zk_1, zs_1_0, zr_1_0, hZ, hl, hs, z1', z3, f3, hb, hcj, e3, q, decide_false, Bool.false_and]
        rfl
  have e4 : nI e - nI s = nI (e - s) := nI_sb hse
  unfold isW
  by_cases q : e - s = wl i
  · simp (decide := true) only [gN1_int, gN1_ref, gN1_null, gN1_long, gTg8_8, gTg8_14, gTg9_9, gTg9_13, gTgA_8, gTgA_9, gTgA_10, gTgA_11, gTgA_13, gTgA_14, gB01_0, gB01_1, gB01_b, List.cons_append, List.nil_append, Option.toList_some, Option.toList_none, Option.bind_some, ↓reduceIte, eq_self, not_true_eq_false, not_false_eq_true, b2i_0, b2i_1, up_eq, up_ne, up_up, up_sort, up_self, fl_at, nI_s, q_45_0, q_45_1, q_45_4, q_45_5, q_45_8, q_45_9, q_45_10, q_45_13, q_45_16, q_45_17, q_45_18, q_45_19, zk_1, zs_1_0, zr_1_0, hZ, hl, hs, he, z1', z3, e4, q, decide_true, Bool.true_and]
    have := key (wl i) 0 (by omega)
    rw [nI_0] at this
    exact this
  · have q' : ¬ nI (e - s) = nI (wl i) := fun z => q ((nI_eq (by omega) (by omega)).mp z)
    simp (decide := true) only [gN1_int, gN1_ref, gN1_null, gN1_long, gTg8_8, gTg8_14, gTg9_9, gTg9_13, gTgA_8, gTgA_9, gTgA_10, gTgA_11, gTgA_13, gTgA_14, gB01_0, gB01_1, gB01_b, List.cons_append, List.nil_append, Option.toList_some, Option.toList_none, Option.bind_some, ↓reduceIte, eq_self, not_true_eq_false, not_false_eq_true, b2i_0, b2i_1, up_eq, up_ne, up_up, up_sort, up_self, fl_at, nI_s, q_45_0, q_45_1, q_45_4, q_45_5, q_45_8, q_45_9, q_45_10, q_45_13, q_45_16, q_45_17, q_45_18, q_45_19, zk_1, zs_1_0, zr_1_0, hZ, hl, hs, he, z1', z3, e4, q, q', decide_false, Bool.false_and]
    rfl
theorem X4_wordAt_0 : g_at 46 0 [.int 0] [] Z I J = some (some (.ref (1010 + 0)), Z, I, J) := by
  simp (decide := true) only [gN1_int, gN1_ref, gN1_null, gN1_long, gTg8_8, gTg8_14, gTg9_9, gTg9_13, gTgA_8, gTgA_9, gTgA_10, gTgA_11, gTgA_13, gTgA_14, gB01_0, gB01_1, gB01_b, List.cons_append, List.nil_append, Option.toList_some, Option.toList_none, Option.bind_some, ↓reduceIte, eq_self, not_true_eq_false, not_false_eq_true, b2i_0, b2i_1, up_eq, up_ne, up_up, up_sort, up_self, fl_at, nI_s, q_46_0, q_46_1, q_46_52, q_46_54, q_46_55, q_46_57, q_46_58, q_46_60, q_46_61, q_46_63, q_46_64, q_46_66, q_46_67, q_46_69, q_46_70, q_46_72, q_46_73, q_46_75, q_46_76, q_46_78, q_46_79, q_46_81]
theorem X4_wordAt_1 : g_at 46 0 [.int 1] [] Z I J = some (some (.ref (1010 + 1)), Z, I, J) := by
  simp (decide := true) only [gN1_int, gN1_ref, gN1_null, gN1_long, gTg8_8, gTg8_14, gTg9_9, gTg9_13, gTgA_8, gTgA_9, gTgA_10, gTgA_11, gTgA_13, gTgA_14, gB01_0, gB01_1, gB01_b, List.cons_append, List.nil_append, Option.toList_some, Option.toList_none, Option.bind_some, ↓reduceIte, eq_self, not_true_eq_false, not_false_eq_true, b2i_0, b2i_1, up_eq, up_ne, up_up, up_sort, up_self, fl_at, nI_s, q_46_0, q_46_1, q_46_52, q_46_54, q_46_55, q_46_57, q_46_58, q_46_60, q_46_61, q_46_63, q_46_64, q_46_66, q_46_67, q_46_69, q_46_70, q_46_72, q_46_73, q_46_75, q_46_76, q_46_78, q_46_79, q_46_81]
theorem X4_wordAt_2 : g_at 46 0 [.int 2] [] Z I J = some (some (.ref (1010 + 2)), Z, I, J) := by
  simp (decide := true) only [gN1_int, gN1_ref, gN1_null, gN1_long, gTg8_8, gTg8_14, gTg9_9, gTg9_13, gTgA_8, gTgA_9, gTgA_10, gTgA_11, gTgA_13, gTgA_14, gB01_0, gB01_1, gB01_b, List.cons_append, List.nil_append, Option.toList_some, Option.toList_none, Option.bind_some, ↓reduceIte, eq_self, not_true_eq_false, not_false_eq_true, b2i_0, b2i_1, up_eq, up_ne, up_up, up_sort, up_self, fl_at, nI_s, q_46_0, q_46_1, q_46_52, q_46_54, q_46_55, q_46_57, q_46_58, q_46_60, q_46_61, q_46_63, q_46_64, q_46_66, q_46_67, q_46_69, q_46_70, q_46_72, q_46_73, q_46_75, q_46_76, q_46_78, q_46_79, q_46_81]
theorem X4_wordAt_3 : g_at 46 0 [.int 3] [] Z I J = some (some (.ref (1010 + 3)), Z, I, J) := by
  simp (decide := true) only [gN1_int, gN1_ref, gN1_null, gN1_long, gTg8_8, gTg8_14, gTg9_9, gTg9_13, gTgA_8, gTgA_9, gTgA_10, gTgA_11, gTgA_13, gTgA_14, gB01_0, gB01_1, gB01_b, List.cons_append, List.nil_append, Option.toList_some, Option.toList_none, Option.bind_some, ↓reduceIte, eq_self, not_true_eq_false, not_false_eq_true, b2i_0, b2i_1, up_eq, up_ne, up_up, up_sort, up_self, fl_at, nI_s, q_46_0, q_46_1, q_46_52, q_46_54, q_46_55, q_46_57, q_46_58, q_46_60, q_46_61, q_46_63, q_46_64, q_46_66, q_46_67, q_46_69, q_46_70, q_46_72, q_46_73, q_46_75, q_46_76, q_46_78, q_46_79, q_46_81]
theorem X4_wordAt_4 : g_at 46 0 [.int 4] [] Z I J = some (some (.ref (1010 + 4)), Z, I, J) := by
  simp (decide := true) only [gN1_int, gN1_ref, gN1_null, gN1_long, gTg8_8, gTg8_14, gTg9_9, gTg9_13, gTgA_8, gTgA_9, gTgA_10, gTgA_11, gTgA_13, gTgA_14, gB01_0, gB01_1, gB01_b, List.cons_append, List.nil_append, Option.toList_some, Option.toList_none, Option.bind_some, ↓reduceIte, eq_self, not_true_eq_false, not_false_eq_true, b2i_0, b2i_1, up_eq, up_ne, up_up, up_sort, up_self, fl_at, nI_s, q_46_0, q_46_1, q_46_52, q_46_54, q_46_55, q_46_57, q_46_58, q_46_60, q_46_61, q_46_63, q_46_64, q_46_66, q_46_67, q_46_69, q_46_70, q_46_72, q_46_73, q_46_75, q_46_76, q_46_78, q_46_79, q_46_81]
theorem X4_wordAt_5 : g_at 46 0 [.int 5] [] Z I J = some (some (.ref (1010 + 5)), Z, I, J) := by
  simp (decide := true) only [gN1_int, gN1_ref, gN1_null, gN1_long, gTg8_8, gTg8_14, gTg9_9, gTg9_13, gTgA_8, gTgA_9, gTgA_10, gTgA_11, gTgA_13, gTgA_14, gB01_0, gB01_1, gB01_b, List.cons_append, List.nil_append, Option.toList_some, Option.toList_none, Option.bind_some, ↓reduceIte, eq_self, not_true_eq_false, not_false_eq_true, b2i_0, b2i_1, up_eq, up_ne, up_up, up_sort, up_self, fl_at, nI_s, q_46_0, q_46_1, q_46_52, q_46_54, q_46_55, q_46_57, q_46_58, q_46_60, q_46_61, q_46_63, q_46_64, q_46_66, q_46_67, q_46_69, q_46_70, q_46_72, q_46_73, q_46_75, q_46_76, q_46_78, q_46_79, q_46_81]
theorem X4_wordAt_6 : g_at 46 0 [.int 6] [] Z I J = some (some (.ref (1010 + 6)), Z, I, J) := by
  simp (decide := true) only [gN1_int, gN1_ref, gN1_null, gN1_long, gTg8_8, gTg8_14, gTg9_9, gTg9_13, gTgA_8, gTgA_9, gTgA_10, gTgA_11, gTgA_13, gTgA_14, gB01_0, gB01_1, gB01_b, List.cons_append, List.nil_append, Option.toList_some, Option.toList_none, Option.bind_some, ↓reduceIte, eq_self, not_true_eq_false, not_false_eq_true, b2i_0, b2i_1, up_eq, up_ne, up_up, up_sort, up_self, fl_at, nI_s, q_46_0, q_46_1, q_46_52, q_46_54, q_46_55, q_46_57, q_46_58, q_46_60, q_46_61, q_46_63, q_46_64, q_46_66, q_46_67, q_46_69, q_46_70, q_46_72, q_46_73, q_46_75, q_46_76, q_46_78, q_46_79, q_46_81]
theorem X4_wordAt_7 : g_at 46 0 [.int 7] [] Z I J = some (some (.ref (1010 + 7)), Z, I, J) := by
  simp (decide := true) only [gN1_int, gN1_ref, gN1_null, gN1_long, gTg8_8, gTg8_14, gTg9_9, gTg9_13, gTgA_8, gTgA_9, gTgA_10, gTgA_11, gTgA_13, gTgA_14, gB01_0, gB01_1, gB01_b, List.cons_append, List.nil_append, Option.toList_some, Option.toList_none, Option.bind_some, ↓reduceIte, eq_self, not_true_eq_false, not_false_eq_true, b2i_0, b2i_1, up_eq, up_ne, up_up, up_sort, up_self, fl_at, nI_s, q_46_0, q_46_1, q_46_52, q_46_54, q_46_55, q_46_57, q_46_58, q_46_60, q_46_61, q_46_63, q_46_64, q_46_66, q_46_67, q_46_69, q_46_70, q_46_72, q_46_73, q_46_75, q_46_76, q_46_78, q_46_79, q_46_81]
theorem X4_wordAt_8 : g_at 46 0 [.int 8] [] Z I J = some (some (.ref (1010 + 8)), Z, I, J) := by
  simp (decide := true) only [gN1_int, gN1_ref, gN1_null, gN1_long, gTg8_8, gTg8_14, gTg9_9, gTg9_13, gTgA_8, gTgA_9, gTgA_10, gTgA_11, gTgA_13, gTgA_14, gB01_0, gB01_1, gB01_b, List.cons_append, List.nil_append, Option.toList_some, Option.toList_none, Option.bind_some, ↓reduceIte, eq_self, not_true_eq_false, not_false_eq_true, b2i_0, b2i_1, up_eq, up_ne, up_up, up_sort, up_self, fl_at, nI_s, q_46_0, q_46_1, q_46_52, q_46_54, q_46_55, q_46_57, q_46_58, q_46_60, q_46_61, q_46_63, q_46_64, q_46_66, q_46_67, q_46_69, q_46_70, q_46_72, q_46_73, q_46_75, q_46_76, q_46_78, q_46_79, q_46_81]
theorem X4_wordAt_9 : g_at 46 0 [.int 9] [] Z I J = some (some (.ref (1010 + 9)), Z, I, J) := by
  simp (decide := true) only [gN1_int, gN1_ref, gN1_null, gN1_long, gTg8_8, gTg8_14, gTg9_9, gTg9_13, gTgA_8, gTgA_9, gTgA_10, gTgA_11, gTgA_13, gTgA_14, gB01_0, gB01_1, gB01_b, List.cons_append, List.nil_append, Option.toList_some, Option.toList_none, Option.bind_some, ↓reduceIte, eq_self, not_true_eq_false, not_false_eq_true, b2i_0, b2i_1, up_eq, up_ne, up_up, up_sort, up_self, fl_at, nI_s, q_46_0, q_46_1, q_46_52, q_46_54, q_46_55, q_46_57, q_46_58, q_46_60, q_46_61, q_46_63, q_46_64, q_46_66, q_46_67, q_46_69, q_46_70, q_46_72, q_46_73, q_46_75, q_46_76, q_46_78, q_46_79, q_46_81]
theorem X4_wordAt {i : Nat} (hi : i < 10) : g_at 46 0 [.int (nI i)] [] Z I J = some (some (.ref (1010 + i)), Z, I, J) := by
  match i, hi with
  | 0, _ => exact X4_wordAt_0
  | 1, _ => exact X4_wordAt_1
  | 2, _ => exact X4_wordAt_2
  | 3, _ => exact X4_wordAt_3
  | 4, _ => exact X4_wordAt_4
  | 5, _ => exact X4_wordAt_5
  | 6, _ => exact X4_wordAt_6
  | 7, _ => exact X4_wordAt_7
  | 8, _ => exact X4_wordAt_8
  | 9, _ => exact X4_wordAt_9
  | n + 10, q => exact absurd q (by omega)
/-- the first such from i on, or ten -/
def wdG (p : Nat → Bool) : Nat → Nat → Nat
  | 0, _ => 10
  | f + 1, i => if p i = true then i else wdG p f (i + 1)
theorem wdG_spec {p : Nat → Bool} (f : Nat) : ∀ i, i + f = 10 → (wdG p f i = 10 ∧ ∀ j, i ≤ j → j < 10 → p j = false) ∨ (wdG p f i < 10 ∧ p (wdG p f i) = true) := by
  induction f with
  | zero => intro i hi; left; exact ⟨rfl, fun j h1 h2 => absurd h2 (by omega)⟩
  | succ f ih =>
    intro i hi
    rw [wdG]
    by_cases q : p i = true
    · rw [if_pos q]; right; exact ⟨by omega, q⟩
    · rw [if_neg q]
      rcases ih (i + 1) (by omega) with ⟨h1, h2⟩ | h1
      · left
        refine ⟨h1, fun j h3 h4 => ?_⟩
        by_cases e : j = i
        · rw [e]; simpa using q
        · exact h2 j (by omega) h4
      · exact Or.inr h1
/-- which word the token is -/
def wdN (t : Nat → Int32) (T s e : Nat) : Nat := wdG (isW t T s e) 10 0
theorem X4_wordHere (hZ : St Z) (hX : TX I) {T s e : Nat} (hT : I 1 1 = nI T) (hT2 : T ≤ 200) (hs : I 1 3 = nI s) (he : I 1 4 = nI e) (hse : s ≤ e) (heT : e ≤ T) : g_at 44 0 [.ref 1, .null] [] Z I J = some (some (.int (if wdN (I 2) T s e = 10 then -1 else nI (wdN (I 2) T s e))), Z, I, J) := by
  have key : ∀ f i, i + f = 10 → g_at 44 2 [.ref 1, .int (nI i)] [] Z I J = some (some (.int (if wdG (isW (I 2) T s e) f i = 10 then -1 else nI (wdG (isW (I 2) T s e) f i))), Z, I, J) := by
    intro f
    induction f with
    | zero =>
      intro i hi
      have ei : i = 10 := by omega
      subst ei
      rw [q_44_2, wdG]
      simp (decide := true) only [gN1_int, gN1_ref, gN1_null, gN1_long, gTg8_8, gTg8_14, gTg9_9, gTg9_13, gTgA_8, gTgA_9, gTgA_10, gTgA_11, gTgA_13, gTgA_14, gB01_0, gB01_1, gB01_b, List.cons_append, List.nil_append, Option.toList_some, Option.toList_none, Option.bind_some, ↓reduceIte, eq_self, not_true_eq_false, not_false_eq_true, b2i_0, b2i_1, up_eq, up_ne, up_up, up_sort, up_self, fl_at, nI_s, q_44_0, q_44_1, q_44_3, q_44_5, q_44_8, q_44_9, q_44_10, q_44_13, q_44_16, q_44_19, q_44_20, q_44_21, q_44_24, q_44_27, q_44_28, show (10 : Int32) ≤ nI 10 from by decide]
    | succ f ih =>
      intro i hi
      have f3 : ¬ (10 : Int32) ≤ nI i := nI_ge (b := 10) (by omega) (by omega)
      have ht := X4_tokenIs (J := J) hZ hX hT hT2 hs he hse heT (i := i) (by omega)
      have hw := X4_wordAt (Z := Z) (I := I) (J := J) (i := i) (by omega)
      rw [q_44_2, wdG]
      by_cases q : isW (I 2) T s e i = true
      · have n10 : ¬ i = 10 := by omega
        rw [if_pos q, if_neg n10]
        simp (decide := true) only [gN1_int, gN1_ref, gN1_null, gN1_long, gTg8_8, gTg8_14, gTg9_9, gTg9_13, gTgA_8, gTgA_9, gTgA_10, gTgA_11, gTgA_13, gTgA_14, gB01_0, gB01_1, gB01_b, List.cons_append, List.nil_append, Option.toList_some, Option.toList_none, Option.bind_some, ↓reduceIte, eq_self, not_true_eq_false, not_false_eq_true, b2i_0, b2i_1, up_eq, up_ne, up_up, up_sort, up_self, fl_at, nI_s, q_44_0, q_44_1, q_44_3, q_44_5, q_44_8, q_44_9, q_44_10, q_44_13, q_44_16, q_44_19, q_44_20, q_44_21, q_44_24, q_44_27, q_44_28, zk_1, zs_1_0, zr_1_0, hZ, f3, ht, hw, q, Bool.true_eq_false]
      · rw [if_neg q]
        have q' : isW (I 2) T s e i = false := by simpa using q
        simp (decide := true) only [gN1_int, gN1_ref, gN1_null, gN1_long, gTg8_8, gTg8_14, gTg9_9, gTg9_13, gTgA_8, gTgA_9, gTgA_10, gTgA_11, gTgA_13, gTgA_14, gB01_0, gB01_1, gB01_b, List.cons_append, List.nil_append, Option.toList_some, Option.toList_none, Option.bind_some, ↓reduceIte, eq_self, not_true_eq_false, not_false_eq_true, b2i_0, b2i_1, up_eq, up_ne, up_up, up_sort, up_self, fl_at, nI_s, q_44_0, q_44_1, q_44_3, q_44_5, q_44_8, q_44_9, q_44_10, q_44_13, q_44_16, q_44_19, q_44_20, q_44_21, q_44_24, q_44_27, q_44_28, zk_1, zs_1_0, zr_1_0, hZ, f3, ht, hw, q']
        exact ih (i + 1) (by omega)
  simp (decide := true) only [gN1_int, gN1_ref, gN1_null, gN1_long, gTg8_8, gTg8_14, gTg9_9, gTg9_13, gTgA_8, gTgA_9, gTgA_10, gTgA_11, gTgA_13, gTgA_14, gB01_0, gB01_1, gB01_b, List.cons_append, List.nil_append, Option.toList_some, Option.toList_none, Option.bind_some, ↓reduceIte, eq_self, not_true_eq_false, not_false_eq_true, b2i_0, b2i_1, up_eq, up_ne, up_up, up_sort, up_self, fl_at, nI_s, q_44_0, q_44_1]
  have := key 10 0 rfl
  rw [nI_0] at this
  exact this
end
