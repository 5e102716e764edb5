/-! the law's loop -/
section
variable {Z : gZ} {I : gI} {J : gJ}
theorem lw_cmp {n i : Nat} (hn : n ≤ 320) (hi : i ≤ 400) : (Int32.ofNat n - 5 < nI i) = (n < i + 5) := by
  apply propext
  have e1 : (Int32.ofNat n).toInt = n := nI_toInt (by omega)
  have e2 : (nI i).toInt = i := nI_toInt (by omega)
  have e3 : (5 : Int32).toInt = 5 := rfl
  rw [Int32.lt_iff_toInt_lt, Int32.toInt_sub, e1, e2, e3, Int.bmod_eq_of_le (by omega) (by omega)]
  omega
theorem lw_0 (hZ : St Z) {n i : Nat} {xs : Nat → Int32} (hn : gKd Z 1001 = (14, n)) (hi : i + 5 ≤ n) (hn2 : n ≤ 320) (hxs : I 1001 = xs) (hR : Rel I J) (hK : KO I) (hX : TX I) (hx : xs i &&& 31 = 0) : ∃ I2 J2, g_at 142 26 [.ref 1001, .ref 0, .ref 38, .int (nI i)] [] Z I J = g_at 142 18 [.ref 1001, .ref 0, .ref 38, .int (nI (i + 5))] [] Z I2 J2 ∧ Rel I2 J2 ∧ ∀ b, 1000 ≤ b → I2 b = I b := by
  obtain ⟨a, I1, J1, I2, J2, c1, c2, hr, h1, h2⟩ := p_write hZ hR ((xs (i + 1)).toInt64 <<< ((32 : Int32).toInt64 &&& 63) ||| ((xs (i + 2)).toInt64 &&& 4294967295)) (xs (i + 3))
  have e1 : I1 1001 = xs := by rw [h1 1001 (by omega)]; exact hxs
  obtain ⟨a0, a1, a2⟩ := ixs (j := i) (by omega)
  obtain ⟨b0, b1, b2⟩ := ixs (j := i + 1) (by omega)
  obtain ⟨d0, d1, d2⟩ := ixs (j := i + 2) (by omega)
  obtain ⟨f0, f1, f2⟩ := ixs (j := i + 3) (by omega)
  obtain ⟨g0, g1, g2⟩ := ixs (j := i + 4) (by omega)
  have w2 : nI i + 2 = nI (i + 2) := nI_ad i 2
  have w3 : nI i + 3 = nI (i + 3) := nI_ad i 3
  have w4 : nI i + 4 = nI (i + 4) := nI_ad i 4
  have w5 : nI i + 5 = nI (i + 5) := nI_ad i 5
  have l0 : i < n := by omega
  have l1 : i + 1 < n := by omega
  have l2 : i + 2 < n := by omega
  have l3 : i + 3 < n := by omega
  have l4 : i + 4 < n := by omega
  refine ⟨I2, J2, ?_, hr, h2⟩
  simp (decide := true) only [gN1_int, gN1_ref, gN1_null, gN1_long, gTg8_8, gTg8_14, gTg9_9, gTg9_13, gTgA_8, gTgA_9, gTgA_10, gTgA_11, gTgA_13, gTgA_14, gB01_0, gB01_1, gB01_b, List.cons_append, List.nil_append, Option.toList_some, Option.toList_none, Option.bind_some, ↓reduceIte, eq_self, not_true_eq_false, not_false_eq_true, b2i_0, b2i_1, up_eq, up_ne, up_up, up_sort, up_self, fl_at, nI_s, q_142_26, q_142_27, q_142_28, q_142_29, q_142_31, q_142_32, q_142_148, q_142_149, q_142_150, q_142_151, q_142_152, q_142_153, q_142_154, q_142_155, q_142_157, q_142_158, q_142_159, q_142_160, q_142_161, q_142_162, q_142_163, q_142_164, q_142_167, q_142_168, q_142_169, q_142_170, q_142_171, q_142_172, q_142_173, q_142_174, q_142_177, q_142_178, q_142_179, q_142_180, q_142_181, q_142_182, q_142_183, q_142_184, q_142_186, q_142_187, q_142_188, q_142_189, q_142_190, q_142_191, q_142_192, q_142_193, q_142_196, q_142_197, q_142_198, q_142_199, q_142_200, q_142_201, q_142_202, q_142_203, q_142_206, q_142_209, q_142_210, q_142_893, q_142_896, zk_0, zk_38, zs_0_0, zr_0_0, zs_0_1, zr_0_1, zs_0_2, zr_0_2, zs_0_3, zr_0_3, zs_0_4, zr_0_4, zs_0_5, zr_0_5, zs_0_6, zr_0_6, zs_0_7, zr_0_7, zs_38_1, zr_38_1, zs_38_2, zr_38_2, zs_38_3, zr_38_3, zs_38_4, zr_38_4, zs_38_8, zr_38_8, zs_38_17, zr_38_17, zs_38_18, zr_38_18, zs_38_19, zr_38_19, zs_38_22, zr_38_22, zs_38_23, zr_38_23, zs_38_25, zr_38_25, zs_38_26, zr_38_26, zs_38_28, zr_38_28, zs_38_29, zr_38_29, hZ, hn, hxs, e1, hx, a0, a1, a2, b0, b1, b2, d0, d1, d2, f0, f1, f2, g0, g1, g2, w2, w3, w4, w5, l0, l1, l2, l3, l4, c1, c2]
theorem lw_1 (hZ : St Z) {n i : Nat} {xs : Nat → Int32} (hn : gKd Z 1001 = (14, n)) (hi : i + 5 ≤ n) (hn2 : n ≤ 320) (hxs : I 1001 = xs) (hR : Rel I J) (hK : KO I) (hX : TX I) (hx : xs i &&& 31 = 1) : ∃ I2 J2, g_at 142 26 [.ref 1001, .ref 0, .ref 38, .int (nI i)] [] Z I J = g_at 142 18 [.ref 1001, .ref 0, .ref 38, .int (nI (i + 5))] [] Z I2 J2 ∧ Rel I2 J2 ∧ ∀ b, 1000 ≤ b → I2 b = I b := by
  obtain ⟨a, I1, J1, I2, J2, c1, c2, hr, h1, h2⟩ := p_erase hZ hR
  have e1 : I1 1001 = xs := by rw [h1 1001 (by omega)]; exact hxs
  obtain ⟨a0, a1, a2⟩ := ixs (j := i) (by omega)
  obtain ⟨b0, b1, b2⟩ := ixs (j := i + 1) (by omega)
  obtain ⟨d0, d1, d2⟩ := ixs (j := i + 2) (by omega)
  obtain ⟨f0, f1, f2⟩ := ixs (j := i + 3) (by omega)
  obtain ⟨g0, g1, g2⟩ := ixs (j := i + 4) (by omega)
  have w2 : nI i + 2 = nI (i + 2) := nI_ad i 2
  have w3 : nI i + 3 = nI (i + 3) := nI_ad i 3
  have w4 : nI i + 4 = nI (i + 4) := nI_ad i 4
  have w5 : nI i + 5 = nI (i + 5) := nI_ad i 5
  have l0 : i < n := by omega
  have l1 : i + 1 < n := by omega
  have l2 : i + 2 < n := by omega
  have l3 : i + 3 < n := by omega
  have l4 : i + 4 < n := by omega
  refine ⟨I2, J2, ?_, hr, h2⟩
  simp (decide := true) only [gN1_int, gN1_ref, gN1_null, gN1_long, gTg8_8, gTg8_14, gTg9_9, gTg9_13, gTgA_8, gTgA_9, gTgA_10, gTgA_11, gTgA_13, gTgA_14, gB01_0, gB01_1, gB01_b, List.cons_append, List.nil_append, Option.toList_some, Option.toList_none, Option.bind_some, ↓reduceIte, eq_self, not_true_eq_false, not_false_eq_true, b2i_0, b2i_1, up_eq, up_ne, up_up, up_sort, up_self, fl_at, nI_s, q_142_26, q_142_27, q_142_28, q_142_29, q_142_31, q_142_32, q_142_211, q_142_212, q_142_215, q_142_216, q_142_219, q_142_222, q_142_223, q_142_893, q_142_896, zk_0, zk_38, zs_0_0, zr_0_0, zs_0_1, zr_0_1, zs_0_2, zr_0_2, zs_0_3, zr_0_3, zs_0_4, zr_0_4, zs_0_5, zr_0_5, zs_0_6, zr_0_6, zs_0_7, zr_0_7, zs_38_1, zr_38_1, zs_38_2, zr_38_2, zs_38_3, zr_38_3, zs_38_4, zr_38_4, zs_38_8, zr_38_8, zs_38_17, zr_38_17, zs_38_18, zr_38_18, zs_38_19, zr_38_19, zs_38_22, zr_38_22, zs_38_23, zr_38_23, zs_38_25, zr_38_25, zs_38_26, zr_38_26, zs_38_28, zr_38_28, zs_38_29, zr_38_29, hZ, hn, hxs, e1, hx, a0, a1, a2, b0, b1, b2, d0, d1, d2, f0, f1, f2, g0, g1, g2, w2, w3, w4, w5, l0, l1, l2, l3, l4, c1, c2]
theorem lw_2 (hZ : St Z) {n i : Nat} {xs : Nat → Int32} (hn : gKd Z 1001 = (14, n)) (hi : i + 5 ≤ n) (hn2 : n ≤ 320) (hxs : I 1001 = xs) (hR : Rel I J) (hK : KO I) (hX : TX I) (hx : xs i &&& 31 = 2) : ∃ I2 J2, g_at 142 26 [.ref 1001, .ref 0, .ref 38, .int (nI i)] [] Z I J = g_at 142 18 [.ref 1001, .ref 0, .ref 38, .int (nI (i + 5))] [] Z I2 J2 ∧ Rel I2 J2 ∧ ∀ b, 1000 ≤ b → I2 b = I b := by
  obtain ⟨a, I1, J1, I2, J2, c1, c2, hr, h1, h2⟩ := p_fault hZ hR hX
  have e1 : I1 1001 = xs := by rw [h1 1001 (by omega)]; exact hxs
  obtain ⟨a0, a1, a2⟩ := ixs (j := i) (by omega)
  obtain ⟨b0, b1, b2⟩ := ixs (j := i + 1) (by omega)
  obtain ⟨d0, d1, d2⟩ := ixs (j := i + 2) (by omega)
  obtain ⟨f0, f1, f2⟩ := ixs (j := i + 3) (by omega)
  obtain ⟨g0, g1, g2⟩ := ixs (j := i + 4) (by omega)
  have w2 : nI i + 2 = nI (i + 2) := nI_ad i 2
  have w3 : nI i + 3 = nI (i + 3) := nI_ad i 3
  have w4 : nI i + 4 = nI (i + 4) := nI_ad i 4
  have w5 : nI i + 5 = nI (i + 5) := nI_ad i 5
  have l0 : i < n := by omega
  have l1 : i + 1 < n := by omega
  have l2 : i + 2 < n := by omega
  have l3 : i + 3 < n := by omega
  have l4 : i + 4 < n := by omega
  refine ⟨I2, J2, ?_, hr, h2⟩
  simp (decide := true) only [gN1_int, gN1_ref, gN1_null, gN1_long, gTg8_8, gTg8_14, gTg9_9, gTg9_13, gTgA_8, gTgA_9, gTgA_10, gTgA_11, gTgA_13, gTgA_14, gB01_0, gB01_1, gB01_b, List.cons_append, List.nil_append, Option.toList_some, Option.toList_none, Option.bind_some, ↓reduceIte, eq_self, not_true_eq_false, not_false_eq_true, b2i_0, b2i_1, up_eq, up_ne, up_up, up_sort, up_self, fl_at, nI_s, q_142_26, q_142_27, q_142_28, q_142_29, q_142_31, q_142_32, q_142_224, q_142_225, q_142_228, q_142_229, q_142_232, q_142_235, q_142_236, q_142_893, q_142_896, zk_0, zk_38, zs_0_0, zr_0_0, zs_0_1, zr_0_1, zs_0_2, zr_0_2, zs_0_3, zr_0_3, zs_0_4, zr_0_4, zs_0_5, zr_0_5, zs_0_6, zr_0_6, zs_0_7, zr_0_7, zs_38_1, zr_38_1, zs_38_2, zr_38_2, zs_38_3, zr_38_3, zs_38_4, zr_38_4, zs_38_8, zr_38_8, zs_38_17, zr_38_17, zs_38_18, zr_38_18, zs_38_19, zr_38_19, zs_38_22, zr_38_22, zs_38_23, zr_38_23, zs_38_25, zr_38_25, zs_38_26, zr_38_26, zs_38_28, zr_38_28, zs_38_29, zr_38_29, hZ, hn, hxs, e1, hx, a0, a1, a2, b0, b1, b2, d0, d1, d2, f0, f1, f2, g0, g1, g2, w2, w3, w4, w5, l0, l1, l2, l3, l4, c1, c2]
theorem lw_3 (hZ : St Z) {n i : Nat} {xs : Nat → Int32} (hn : gKd Z 1001 = (14, n)) (hi : i + 5 ≤ n) (hn2 : n ≤ 320) (hxs : I 1001 = xs) (hR : Rel I J) (hK : KO I) (hX : TX I) (hx : xs i &&& 31 = 3) : ∃ I2 J2, g_at 142 26 [.ref 1001, .ref 0, .ref 38, .int (nI i)] [] Z I J = g_at 142 18 [.ref 1001, .ref 0, .ref 38, .int (nI (i + 5))] [] Z I2 J2 ∧ Rel I2 J2 ∧ ∀ b, 1000 ≤ b → I2 b = I b := by
  obtain ⟨a, I1, J1, I2, J2, c1, c2, hr, h1, h2⟩ := p_cloister hZ hR hX
  have e1 : I1 1001 = xs := by rw [h1 1001 (by omega)]; exact hxs
  obtain ⟨a0, a1, a2⟩ := ixs (j := i) (by omega)
  obtain ⟨b0, b1, b2⟩ := ixs (j := i + 1) (by omega)
  obtain ⟨d0, d1, d2⟩ := ixs (j := i + 2) (by omega)
  obtain ⟨f0, f1, f2⟩ := ixs (j := i + 3) (by omega)
  obtain ⟨g0, g1, g2⟩ := ixs (j := i + 4) (by omega)
  have w2 : nI i + 2 = nI (i + 2) := nI_ad i 2
  have w3 : nI i + 3 = nI (i + 3) := nI_ad i 3
  have w4 : nI i + 4 = nI (i + 4) := nI_ad i 4
  have w5 : nI i + 5 = nI (i + 5) := nI_ad i 5
  have l0 : i < n := by omega
  have l1 : i + 1 < n := by omega
  have l2 : i + 2 < n := by omega
  have l3 : i + 3 < n := by omega
  have l4 : i + 4 < n := by omega
  refine ⟨I2, J2, ?_, hr, h2⟩
  simp (decide := true) only [gN1_int, gN1_ref, gN1_null, gN1_long, gTg8_8, gTg8_14, gTg9_9, gTg9_13, gTgA_8, gTgA_9, gTgA_10, gTgA_11, gTgA_13, gTgA_14, gB01_0, gB01_1, gB01_b, List.cons_append, List.nil_append, Option.toList_some, Option.toList_none, Option.bind_some, ↓reduceIte, eq_self, not_true_eq_false, not_false_eq_true, b2i_0, b2i_1, up_eq, up_ne, up_up, up_sort, up_self, fl_at, nI_s, q_142_26, q_142_27, q_142_28, q_142_29, q_142_31, q_142_32, q_142_237, q_142_238, q_142_241, q_142_242, q_142_245, q_142_248, q_142_249, q_142_893, q_142_896, zk_0, zk_38, zs_0_0, zr_0_0, zs_0_1, zr_0_1, zs_0_2, zr_0_2, zs_0_3, zr_0_3, zs_0_4, zr_0_4, zs_0_5, zr_0_5, zs_0_6, zr_0_6, zs_0_7, zr_0_7, zs_38_1, zr_38_1, zs_38_2, zr_38_2, zs_38_3, zr_38_3, zs_38_4, zr_38_4, zs_38_8, zr_38_8, zs_38_17, zr_38_17, zs_38_18, zr_38_18, zs_38_19, zr_38_19, zs_38_22, zr_38_22, zs_38_23, zr_38_23, zs_38_25, zr_38_25, zs_38_26, zr_38_26, zs_38_28, zr_38_28, zs_38_29, zr_38_29, hZ, hn, hxs, e1, hx, a0, a1, a2, b0, b1, b2, d0, d1, d2, f0, f1, f2, g0, g1, g2, w2, w3, w4, w5, l0, l1, l2, l3, l4, c1, c2]
theorem lw_4 (hZ : St Z) {n i : Nat} {xs : Nat → Int32} (hn : gKd Z 1001 = (14, n)) (hi : i + 5 ≤ n) (hn2 : n ≤ 320) (hxs : I 1001 = xs) (hR : Rel I J) (hK : KO I) (hX : TX I) (hx : xs i &&& 31 = 4) : ∃ I2 J2, g_at 142 26 [.ref 1001, .ref 0, .ref 38, .int (nI i)] [] Z I J = g_at 142 18 [.ref 1001, .ref 0, .ref 38, .int (nI (i + 5))] [] Z I2 J2 ∧ Rel I2 J2 ∧ ∀ b, 1000 ≤ b → I2 b = I b := by
  obtain ⟨a, I1, J1, I2, J2, c1, c2, hr, h1, h2⟩ := p_gong hZ hR (xs (i + 1)) (xs (i + 2))
  have e1 : I1 1001 = xs := by rw [h1 1001 (by omega)]; exact hxs
  obtain ⟨a0, a1, a2⟩ := ixs (j := i) (by omega)
  obtain ⟨b0, b1, b2⟩ := ixs (j := i + 1) (by omega)
  obtain ⟨d0, d1, d2⟩ := ixs (j := i + 2) (by omega)
  obtain ⟨f0, f1, f2⟩ := ixs (j := i + 3) (by omega)
  obtain ⟨g0, g1, g2⟩ := ixs (j := i + 4) (by omega)
  have w2 : nI i + 2 = nI (i + 2) := nI_ad i 2
  have w3 : nI i + 3 = nI (i + 3) := nI_ad i 3
  have w4 : nI i + 4 = nI (i + 4) := nI_ad i 4
  have w5 : nI i + 5 = nI (i + 5) := nI_ad i 5
  have l0 : i < n := by omega
  have l1 : i + 1 < n := by omega
  have l2 : i + 2 < n := by omega
  have l3 : i + 3 < n := by omega
  have l4 : i + 4 < n := by omega
  refine ⟨I2, J2, ?_, hr, h2⟩
  simp (decide := true) only [gN1_int, gN1_ref, gN1_null, gN1_long, gTg8_8, gTg8_14, gTg9_9, gTg9_13, gTgA_8, gTgA_9, gTgA_10, gTgA_11, gTgA_13, gTgA_14, gB01_0, gB01_1, gB01_b, List.cons_append, List.nil_append, Option.toList_some, Option.toList_none, Option.bind_some, ↓reduceIte, eq_self, not_true_eq_false, not_false_eq_true, b2i_0, b2i_1, up_eq, up_ne, up_up, up_sort, up_self, fl_at, nI_s, q_142_26, q_142_27, q_142_28, q_142_29, q_142_31, q_142_32, q_142_250, q_142_251, q_142_252, q_142_253, q_142_254, q_142_255, q_142_256, q_142_257, q_142_258, q_142_259, q_142_260, q_142_261, q_142_264, q_142_265, q_142_266, q_142_267, q_142_268, q_142_269, q_142_270, q_142_271, q_142_272, q_142_273, q_142_274, q_142_275, q_142_278, q_142_281, q_142_282, q_142_893, q_142_896, zk_0, zk_38, zs_0_0, zr_0_0, zs_0_1, zr_0_1, zs_0_2, zr_0_2, zs_0_3, zr_0_3, zs_0_4, zr_0_4, zs_0_5, zr_0_5, zs_0_6, zr_0_6, zs_0_7, zr_0_7, zs_38_1, zr_38_1, zs_38_2, zr_38_2, zs_38_3, zr_38_3, zs_38_4, zr_38_4, zs_38_8, zr_38_8, zs_38_17, zr_38_17, zs_38_18, zr_38_18, zs_38_19, zr_38_19, zs_38_22, zr_38_22, zs_38_23, zr_38_23, zs_38_25, zr_38_25, zs_38_26, zr_38_26, zs_38_28, zr_38_28, zs_38_29, zr_38_29, hZ, hn, hxs, e1, hx, a0, a1, a2, b0, b1, b2, d0, d1, d2, f0, f1, f2, g0, g1, g2, w2, w3, w4, w5, l0, l1, l2, l3, l4, c1, c2]
theorem lw_5 (hZ : St Z) {n i : Nat} {xs : Nat → Int32} (hn : gKd Z 1001 = (14, n)) (hi : i + 5 ≤ n) (hn2 : n ≤ 320) (hxs : I 1001 = xs) (hR : Rel I J) (hK : KO I) (hX : TX I) (hx : xs i &&& 31 = 5) : ∃ I2 J2, g_at 142 26 [.ref 1001, .ref 0, .ref 38, .int (nI i)] [] Z I J = g_at 142 18 [.ref 1001, .ref 0, .ref 38, .int (nI (i + 5))] [] Z I2 J2 ∧ Rel I2 J2 ∧ ∀ b, 1000 ≤ b → I2 b = I b := by
  obtain ⟨a, I1, J1, I2, J2, c1, c2, hr, h1, h2⟩ := p_monk hZ hR (xs (i + 1)) (xs (i + 2))
  have e1 : I1 1001 = xs := by rw [h1 1001 (by omega)]; exact hxs
  obtain ⟨a0, a1, a2⟩ := ixs (j := i) (by omega)
  obtain ⟨b0, b1, b2⟩ := ixs (j := i + 1) (by omega)
  obtain ⟨d0, d1, d2⟩ := ixs (j := i + 2) (by omega)
  obtain ⟨f0, f1, f2⟩ := ixs (j := i + 3) (by omega)
  obtain ⟨g0, g1, g2⟩ := ixs (j := i + 4) (by omega)
  have w2 : nI i + 2 = nI (i + 2) := nI_ad i 2
  have w3 : nI i + 3 = nI (i + 3) := nI_ad i 3
  have w4 : nI i + 4 = nI (i + 4) := nI_ad i 4
  have w5 : nI i + 5 = nI (i + 5) := nI_ad i 5
  have l0 : i < n := by omega
  have l1 : i + 1 < n := by omega
  have l2 : i + 2 < n := by omega
  have l3 : i + 3 < n := by omega
  have l4 : i + 4 < n := by omega
  refine ⟨I2, J2, ?_, hr, h2⟩
  simp (decide := true) only [gN1_int, gN1_ref, gN1_null, gN1_long, gTg8_8, gTg8_14, gTg9_9, gTg9_13, gTgA_8, gTgA_9, gTgA_10, gTgA_11, gTgA_13, gTgA_14, gB01_0, gB01_1, gB01_b, List.cons_append, List.nil_append, Option.toList_some, Option.toList_none, Option.bind_some, ↓reduceIte, eq_self, not_true_eq_false, not_false_eq_true, b2i_0, b2i_1, up_eq, up_ne, up_up, up_sort, up_self, fl_at, nI_s, q_142_26, q_142_27, q_142_28, q_142_29, q_142_31, q_142_32, q_142_283, q_142_284, q_142_285, q_142_286, q_142_287, q_142_288, q_142_289, q_142_290, q_142_291, q_142_292, q_142_293, q_142_294, q_142_297, q_142_298, q_142_299, q_142_300, q_142_301, q_142_302, q_142_303, q_142_304, q_142_305, q_142_306, q_142_307, q_142_308, q_142_311, q_142_314, q_142_315, q_142_893, q_142_896, zk_0, zk_38, zs_0_0, zr_0_0, zs_0_1, zr_0_1, zs_0_2, zr_0_2, zs_0_3, zr_0_3, zs_0_4, zr_0_4, zs_0_5, zr_0_5, zs_0_6, zr_0_6, zs_0_7, zr_0_7, zs_38_1, zr_38_1, zs_38_2, zr_38_2, zs_38_3, zr_38_3, zs_38_4, zr_38_4, zs_38_8, zr_38_8, zs_38_17, zr_38_17, zs_38_18, zr_38_18, zs_38_19, zr_38_19, zs_38_22, zr_38_22, zs_38_23, zr_38_23, zs_38_25, zr_38_25, zs_38_26, zr_38_26, zs_38_28, zr_38_28, zs_38_29, zr_38_29, hZ, hn, hxs, e1, hx, a0, a1, a2, b0, b1, b2, d0, d1, d2, f0, f1, f2, g0, g1, g2, w2, w3, w4, w5, l0, l1, l2, l3, l4, c1, c2]
theorem lw_6 (hZ : St Z) {n i : Nat} {xs : Nat → Int32} (hn : gKd Z 1001 = (14, n)) (hi : i + 5 ≤ n) (hn2 : n ≤ 320) (hxs : I 1001 = xs) (hR : Rel I J) (hK : KO I) (hX : TX I) (hx : xs i &&& 31 = 6) : ∃ I2 J2, g_at 142 26 [.ref 1001, .ref 0, .ref 38, .int (nI i)] [] Z I J = g_at 142 18 [.ref 1001, .ref 0, .ref 38, .int (nI (i + 5))] [] Z I2 J2 ∧ Rel I2 J2 ∧ ∀ b, 1000 ≤ b → I2 b = I b := by
  obtain ⟨a, I1, J1, I2, J2, c1, c2, hr, h1, h2⟩ := p_as hZ hR hK (xs (i + 1)) (xs (i + 2))
  have e1 : I1 1001 = xs := by rw [h1 1001 (by omega)]; exact hxs
  obtain ⟨a0, a1, a2⟩ := ixs (j := i) (by omega)
  obtain ⟨b0, b1, b2⟩ := ixs (j := i + 1) (by omega)
  obtain ⟨d0, d1, d2⟩ := ixs (j := i + 2) (by omega)
  obtain ⟨f0, f1, f2⟩ := ixs (j := i + 3) (by omega)
  obtain ⟨g0, g1, g2⟩ := ixs (j := i + 4) (by omega)
  have w2 : nI i + 2 = nI (i + 2) := nI_ad i 2
  have w3 : nI i + 3 = nI (i + 3) := nI_ad i 3
  have w4 : nI i + 4 = nI (i + 4) := nI_ad i 4
  have w5 : nI i + 5 = nI (i + 5) := nI_ad i 5
  have l0 : i < n := by omega
  have l1 : i + 1 < n := by omega
  have l2 : i + 2 < n := by omega
  have l3 : i + 3 < n := by omega
  have l4 : i + 4 < n := by omega
  refine ⟨I2, J2, ?_, hr, h2⟩
  simp (decide := true) only [gN1_int, gN1_ref, gN1_null, gN1_long, gTg8_8, gTg8_14, gTg9_9, gTg9_13, gTgA_8, gTgA_9, gTgA_10, gTgA_11, gTgA_13, gTgA_14, gB01_0, gB01_1, gB01_b, List.cons_append, List.nil_append, Option.toList_some, Option.toList_none, Option.bind_some, ↓reduceIte, eq_self, not_true_eq_false, not_false_eq_true, b2i_0, b2i_1, up_eq, up_ne, up_up, up_sort, up_self, fl_at, nI_s, q_142_26, q_142_27, q_142_28, q_142_29, q_142_31, q_142_32, q_142_316, q_142_317, q_142_318, q_142_319, q_142_320, q_142_321, q_142_322, q_142_323, q_142_324, q_142_325, q_142_326, q_142_327, q_142_330, q_142_331, q_142_332, q_142_333, q_142_334, q_142_335, q_142_336, q_142_337, q_142_338, q_142_339, q_142_340, q_142_341, q_142_344, q_142_347, q_142_348, q_142_893, q_142_896, zk_0, zk_38, zs_0_0, zr_0_0, zs_0_1, zr_0_1, zs_0_2, zr_0_2, zs_0_3, zr_0_3, zs_0_4, zr_0_4, zs_0_5, zr_0_5, zs_0_6, zr_0_6, zs_0_7, zr_0_7, zs_38_1, zr_38_1, zs_38_2, zr_38_2, zs_38_3, zr_38_3, zs_38_4, zr_38_4, zs_38_8, zr_38_8, zs_38_17, zr_38_17, zs_38_18, zr_38_18, zs_38_19, zr_38_19, zs_38_22, zr_38_22, zs_38_23, zr_38_23, zs_38_25, zr_38_25, zs_38_26, zr_38_26, zs_38_28, zr_38_28, zs_38_29, zr_38_29, hZ, hn, hxs, e1, hx, a0, a1, a2, b0, b1, b2, d0, d1, d2, f0, f1, f2, g0, g1, g2, w2, w3, w4, w5, l0, l1, l2, l3, l4, c1, c2]
theorem lw_7 (hZ : St Z) {n i : Nat} {xs : Nat → Int32} (hn : gKd Z 1001 = (14, n)) (hi : i + 5 ≤ n) (hn2 : n ≤ 320) (hxs : I 1001 = xs) (hR : Rel I J) (hK : KO I) (hX : TX I) (hx : xs i &&& 31 = 7) : ∃ I2 J2, g_at 142 26 [.ref 1001, .ref 0, .ref 38, .int (nI i)] [] Z I J = g_at 142 18 [.ref 1001, .ref 0, .ref 38, .int (nI (i + 5))] [] Z I2 J2 ∧ Rel I2 J2 ∧ ∀ b, 1000 ≤ b → I2 b = I b := by
  obtain ⟨a, I1, J1, I2, J2, c1, c2, hr, h1, h2⟩ := p_strike hZ hR (xs (i + 1))
  have e1 : I1 1001 = xs := by rw [h1 1001 (by omega)]; exact hxs
  obtain ⟨a0, a1, a2⟩ := ixs (j := i) (by omega)
  obtain ⟨b0, b1, b2⟩ := ixs (j := i + 1) (by omega)
  obtain ⟨d0, d1, d2⟩ := ixs (j := i + 2) (by omega)
  obtain ⟨f0, f1, f2⟩ := ixs (j := i + 3) (by omega)
  obtain ⟨g0, g1, g2⟩ := ixs (j := i + 4) (by omega)
  have w2 : nI i + 2 = nI (i + 2) := nI_ad i 2
  have w3 : nI i + 3 = nI (i + 3) := nI_ad i 3
  have w4 : nI i + 4 = nI (i + 4) := nI_ad i 4
  have w5 : nI i + 5 = nI (i + 5) := nI_ad i 5
  have l0 : i < n := by omega
  have l1 : i + 1 < n := by omega
  have l2 : i + 2 < n := by omega
  have l3 : i + 3 < n := by omega
  have l4 : i + 4 < n := by omega
  refine ⟨I2, J2, ?_, hr, h2⟩
  simp (decide := true) only [gN1_int, gN1_ref, gN1_null, gN1_long, gTg8_8, gTg8_14, gTg9_9, gTg9_13, gTgA_8, gTgA_9, gTgA_10, gTgA_11, gTgA_13, gTgA_14, gB01_0, gB01_1, gB01_b, List.cons_append, List.nil_append, Option.toList_some, Option.toList_none, Option.bind_some, ↓reduceIte, eq_self, not_true_eq_false, not_false_eq_true, b2i_0, b2i_1, up_eq, up_ne, up_up, up_sort, up_self, fl_at, nI_s, q_142_26, q_142_27, q_142_28, q_142_29, q_142_31, q_142_32, q_142_349, q_142_350, q_142_351, q_142_352, q_142_353, q_142_354, q_142_355, q_142_358, q_142_359, q_142_360, q_142_361, q_142_362, q_142_363, q_142_364, q_142_367, q_142_370, q_142_371, q_142_893, q_142_896, zk_0, zk_38, zs_0_0, zr_0_0, zs_0_1, zr_0_1, zs_0_2, zr_0_2, zs_0_3, zr_0_3, zs_0_4, zr_0_4, zs_0_5, zr_0_5, zs_0_6, zr_0_6, zs_0_7, zr_0_7, zs_38_1, zr_38_1, zs_38_2, zr_38_2, zs_38_3, zr_38_3, zs_38_4, zr_38_4, zs_38_8, zr_38_8, zs_38_17, zr_38_17, zs_38_18, zr_38_18, zs_38_19, zr_38_19, zs_38_22, zr_38_22, zs_38_23, zr_38_23, zs_38_25, zr_38_25, zs_38_26, zr_38_26, zs_38_28, zr_38_28, zs_38_29, zr_38_29, hZ, hn, hxs, e1, hx, a0, a1, a2, b0, b1, b2, d0, d1, d2, f0, f1, f2, g0, g1, g2, w2, w3, w4, w5, l0, l1, l2, l3, l4, c1, c2]
theorem lw_8 (hZ : St Z) {n i : Nat} {xs : Nat → Int32} (hn : gKd Z 1001 = (14, n)) (hi : i + 5 ≤ n) (hn2 : n ≤ 320) (hxs : I 1001 = xs) (hR : Rel I J) (hK : KO I) (hX : TX I) (hx : xs i &&& 31 = 8) : ∃ I2 J2, g_at 142 26 [.ref 1001, .ref 0, .ref 38, .int (nI i)] [] Z I J = g_at 142 18 [.ref 1001, .ref 0, .ref 38, .int (nI (i + 5))] [] Z I2 J2 ∧ Rel I2 J2 ∧ ∀ b, 1000 ≤ b → I2 b = I b := by
  obtain ⟨a, I1, J1, I2, J2, c1, c2, hr, h1, h2⟩ := p_go hZ hR (xs (i + 1))
  have e1 : I1 1001 = xs := by rw [h1 1001 (by omega)]; exact hxs
  obtain ⟨a0, a1, a2⟩ := ixs (j := i) (by omega)
  obtain ⟨b0, b1, b2⟩ := ixs (j := i + 1) (by omega)
  obtain ⟨d0, d1, d2⟩ := ixs (j := i + 2) (by omega)
  obtain ⟨f0, f1, f2⟩ := ixs (j := i + 3) (by omega)
  obtain ⟨g0, g1, g2⟩ := ixs (j := i + 4) (by omega)
  have w2 : nI i + 2 = nI (i + 2) := nI_ad i 2
  have w3 : nI i + 3 = nI (i + 3) := nI_ad i 3
  have w4 : nI i + 4 = nI (i + 4) := nI_ad i 4
  have w5 : nI i + 5 = nI (i + 5) := nI_ad i 5
  have l0 : i < n := by omega
  have l1 : i + 1 < n := by omega
  have l2 : i + 2 < n := by omega
  have l3 : i + 3 < n := by omega
  have l4 : i + 4 < n := by omega
  refine ⟨I2, J2, ?_, hr, h2⟩
  simp (decide := true) only [gN1_int, gN1_ref, gN1_null, gN1_long, gTg8_8, gTg8_14, gTg9_9, gTg9_13, gTgA_8, gTgA_9, gTgA_10, gTgA_11, gTgA_13, gTgA_14, gB01_0, gB01_1, gB01_b, List.cons_append, List.nil_append, Option.toList_some, Option.toList_none, Option.bind_some, ↓reduceIte, eq_self, not_true_eq_false, not_false_eq_true, b2i_0, b2i_1, up_eq, up_ne, up_up, up_sort, up_self, fl_at, nI_s, q_142_26, q_142_27, q_142_28, q_142_29, q_142_31, q_142_32, q_142_372, q_142_373, q_142_374, q_142_375, q_142_376, q_142_377, q_142_378, q_142_381, q_142_382, q_142_383, q_142_384, q_142_385, q_142_386, q_142_387, q_142_390, q_142_393, q_142_394, q_142_893, q_142_896, zk_0, zk_38, zs_0_0, zr_0_0, zs_0_1, zr_0_1, zs_0_2, zr_0_2, zs_0_3, zr_0_3, zs_0_4, zr_0_4, zs_0_5, zr_0_5, zs_0_6, zr_0_6, zs_0_7, zr_0_7, zs_38_1, zr_38_1, zs_38_2, zr_38_2, zs_38_3, zr_38_3, zs_38_4, zr_38_4, zs_38_8, zr_38_8, zs_38_17, zr_38_17, zs_38_18, zr_38_18, zs_38_19, zr_38_19, zs_38_22, zr_38_22, zs_38_23, zr_38_23, zs_38_25, zr_38_25, zs_38_26, zr_38_26, zs_38_28, zr_38_28, zs_38_29, zr_38_29, hZ, hn, hxs, e1, hx, a0, a1, a2, b0, b1, b2, d0, d1, d2, f0, f1, f2, g0, g1, g2, w2, w3, w4, w5, l0, l1, l2, l3, l4, c1, c2]
theorem lw_9 (hZ : St Z) {n i : Nat} {xs : Nat → Int32} (hn : gKd Z 1001 = (14, n)) (hi : i + 5 ≤ n) (hn2 : n ≤ 320) (hxs : I 1001 = xs) (hR : Rel I J) (hK : KO I) (hX : TX I) (hx : xs i &&& 31 = 9) : ∃ I2 J2, g_at 142 26 [.ref 1001, .ref 0, .ref 38, .int (nI i)] [] Z I J = g_at 142 18 [.ref 1001, .ref 0, .ref 38, .int (nI (i + 5))] [] Z I2 J2 ∧ Rel I2 J2 ∧ ∀ b, 1000 ≤ b → I2 b = I b := by
  obtain ⟨a, I1, J1, I2, J2, c1, c2, hr, h1, h2⟩ := p_turn hZ hR (xs (i + 1))
  have e1 : I1 1001 = xs := by rw [h1 1001 (by omega)]; exact hxs
  obtain ⟨a0, a1, a2⟩ := ixs (j := i) (by omega)
  obtain ⟨b0, b1, b2⟩ := ixs (j := i + 1) (by omega)
  obtain ⟨d0, d1, d2⟩ := ixs (j := i + 2) (by omega)
  obtain ⟨f0, f1, f2⟩ := ixs (j := i + 3) (by omega)
  obtain ⟨g0, g1, g2⟩ := ixs (j := i + 4) (by omega)
  have w2 : nI i + 2 = nI (i + 2) := nI_ad i 2
  have w3 : nI i + 3 = nI (i + 3) := nI_ad i 3
  have w4 : nI i + 4 = nI (i + 4) := nI_ad i 4
  have w5 : nI i + 5 = nI (i + 5) := nI_ad i 5
  have l0 : i < n := by omega
  have l1 : i + 1 < n := by omega
  have l2 : i + 2 < n := by omega
  have l3 : i + 3 < n := by omega
  have l4 : i + 4 < n := by omega
  refine ⟨I2, J2, ?_, hr, h2⟩
  simp (decide := true) only [gN1_int, gN1_ref, gN1_null, gN1_long, gTg8_8, gTg8_14, gTg9_9, gTg9_13, gTgA_8, gTgA_9, gTgA_10, gTgA_11, gTgA_13, gTgA_14, gB01_0, gB01_1, gB01_b, List.cons_append, List.nil_append, Option.toList_some, Option.toList_none, Option.bind_some, ↓reduceIte, eq_self, not_true_eq_false, not_false_eq_true, b2i_0, b2i_1, up_eq, up_ne, up_up, up_sort, up_self, fl_at, nI_s, q_142_26, q_142_27, q_142_28, q_142_29, q_142_31, q_142_32, q_142_395, q_142_396, q_142_397, q_142_398, q_142_399, q_142_400, q_142_401, q_142_404, q_142_405, q_142_406, q_142_407, q_142_408, q_142_409, q_142_410, q_142_413, q_142_416, q_142_417, q_142_893, q_142_896, zk_0, zk_38, zs_0_0, zr_0_0, zs_0_1, zr_0_1, zs_0_2, zr_0_2, zs_0_3, zr_0_3, zs_0_4, zr_0_4, zs_0_5, zr_0_5, zs_0_6, zr_0_6, zs_0_7, zr_0_7, zs_38_1, zr_38_1, zs_38_2, zr_38_2, zs_38_3, zr_38_3, zs_38_4, zr_38_4, zs_38_8, zr_38_8, zs_38_17, zr_38_17, zs_38_18, zr_38_18, zs_38_19, zr_38_19, zs_38_22, zr_38_22, zs_38_23, zr_38_23, zs_38_25, zr_38_25, zs_38_26, zr_38_26, zs_38_28, zr_38_28, zs_38_29, zr_38_29, hZ, hn, hxs, e1, hx, a0, a1, a2, b0, b1, b2, d0, d1, d2, f0, f1, f2, g0, g1, g2, w2, w3, w4, w5, l0, l1, l2, l3, l4, c1, c2]
theorem lw_10 (hZ : St Z) {n i : Nat} {xs : Nat → Int32} (hn : gKd Z 1001 = (14, n)) (hi : i + 5 ≤ n) (hn2 : n ≤ 320) (hxs : I 1001 = xs) (hR : Rel I J) (hK : KO I) (hX : TX I) (hx : xs i &&& 31 = 10) : ∃ I2 J2, g_at 142 26 [.ref 1001, .ref 0, .ref 38, .int (nI i)] [] Z I J = g_at 142 18 [.ref 1001, .ref 0, .ref 38, .int (nI (i + 5))] [] Z I2 J2 ∧ Rel I2 J2 ∧ ∀ b, 1000 ≤ b → I2 b = I b := by
  obtain ⟨a, I1, J1, I2, J2, c1, c2, hr, h1, h2⟩ := p_keep hZ hR (xs (i + 1))
  have e1 : I1 1001 = xs := by rw [h1 1001 (by omega)]; exact hxs
  obtain ⟨a0, a1, a2⟩ := ixs (j := i) (by omega)
  obtain ⟨b0, b1, b2⟩ := ixs (j := i + 1) (by omega)
  obtain ⟨d0, d1, d2⟩ := ixs (j := i + 2) (by omega)
  obtain ⟨f0, f1, f2⟩ := ixs (j := i + 3) (by omega)
  obtain ⟨g0, g1, g2⟩ := ixs (j := i + 4) (by omega)
  have w2 : nI i + 2 = nI (i + 2) := nI_ad i 2
  have w3 : nI i + 3 = nI (i + 3) := nI_ad i 3
  have w4 : nI i + 4 = nI (i + 4) := nI_ad i 4
  have w5 : nI i + 5 = nI (i + 5) := nI_ad i 5
  have l0 : i < n := by omega
  have l1 : i + 1 < n := by omega
  have l2 : i + 2 < n := by omega
  have l3 : i + 3 < n := by omega
  have l4 : i + 4 < n := by omega
  refine ⟨I2, J2, ?_, hr, h2⟩
  simp (decide := true) only [gN1_int, gN1_ref, gN1_null, gN1_long, gTg8_8, gTg8_14, gTg9_9, gTg9_13, gTgA_8, gTgA_9, gTgA_10, gTgA_11, gTgA_13, gTgA_14, gB01_0, gB01_1, gB01_b, List.cons_append, List.nil_append, Option.toList_some, Option.toList_none, Option.bind_some, ↓reduceIte, eq_self, not_true_eq_false, not_false_eq_true, b2i_0, b2i_1, up_eq, up_ne, up_up, up_sort, up_self, fl_at, nI_s, q_142_26, q_142_27, q_142_28, q_142_29, q_142_31, q_142_32, q_142_418, q_142_419, q_142_420, q_142_421, q_142_422, q_142_423, q_142_424, q_142_427, q_142_428, q_142_429, q_142_430, q_142_431, q_142_432, q_142_433, q_142_436, q_142_439, q_142_440, q_142_893, q_142_896, zk_0, zk_38, zs_0_0, zr_0_0, zs_0_1, zr_0_1, zs_0_2, zr_0_2, zs_0_3, zr_0_3, zs_0_4, zr_0_4, zs_0_5, zr_0_5, zs_0_6, zr_0_6, zs_0_7, zr_0_7, zs_38_1, zr_38_1, zs_38_2, zr_38_2, zs_38_3, zr_38_3, zs_38_4, zr_38_4, zs_38_8, zr_38_8, zs_38_17, zr_38_17, zs_38_18, zr_38_18, zs_38_19, zr_38_19, zs_38_22, zr_38_22, zs_38_23, zr_38_23, zs_38_25, zr_38_25, zs_38_26, zr_38_26, zs_38_28, zr_38_28, zs_38_29, zr_38_29, hZ, hn, hxs, e1, hx, a0, a1, a2, b0, b1, b2, d0, d1, d2, f0, f1, f2, g0, g1, g2, w2, w3, w4, w5, l0, l1, l2, l3, l4, c1, c2]
theorem lw_11 (hZ : St Z) {n i : Nat} {xs : Nat → Int32} (hn : gKd Z 1001 = (14, n)) (hi : i + 5 ≤ n) (hn2 : n ≤ 320) (hxs : I 1001 = xs) (hR : Rel I J) (hK : KO I) (hX : TX I) (hx : xs i &&& 31 = 11) : ∃ I2 J2, g_at 142 26 [.ref 1001, .ref 0, .ref 38, .int (nI i)] [] Z I J = g_at 142 18 [.ref 1001, .ref 0, .ref 38, .int (nI (i + 5))] [] Z I2 J2 ∧ Rel I2 J2 ∧ ∀ b, 1000 ≤ b → I2 b = I b := by
  obtain ⟨a, I1, J1, I2, J2, c1, c2, hr, h1, h2⟩ := p_back hZ hR (xs (i + 1))
  have e1 : I1 1001 = xs := by rw [h1 1001 (by omega)]; exact hxs
  obtain ⟨a0, a1, a2⟩ := ixs (j := i) (by omega)
  obtain ⟨b0, b1, b2⟩ := ixs (j := i + 1) (by omega)
  obtain ⟨d0, d1, d2⟩ := ixs (j := i + 2) (by omega)
  obtain ⟨f0, f1, f2⟩ := ixs (j := i + 3) (by omega)
  obtain ⟨g0, g1, g2⟩ := ixs (j := i + 4) (by omega)
  have w2 : nI i + 2 = nI (i + 2) := nI_ad i 2
  have w3 : nI i + 3 = nI (i + 3) := nI_ad i 3
  have w4 : nI i + 4 = nI (i + 4) := nI_ad i 4
  have w5 : nI i + 5 = nI (i + 5) := nI_ad i 5
  have l0 : i < n := by omega
  have l1 : i + 1 < n := by omega
  have l2 : i + 2 < n := by omega
  have l3 : i + 3 < n := by omega
  have l4 : i + 4 < n := by omega
  refine ⟨I2, J2, ?_, hr, h2⟩
  simp (decide := true) only [gN1_int, gN1_ref, gN1_null, gN1_long, gTg8_8, gTg8_14, gTg9_9, gTg9_13, gTgA_8, gTgA_9, gTgA_10, gTgA_11, gTgA_13, gTgA_14, gB01_0, gB01_1, gB01_b, List.cons_append, List.nil_append, Option.toList_some, Option.toList_none, Option.bind_some, ↓reduceIte, eq_self, not_true_eq_false, not_false_eq_true, b2i_0, b2i_1, up_eq, up_ne, up_up, up_sort, up_self, fl_at, nI_s, q_142_26, q_142_27, q_142_28, q_142_29, q_142_31, q_142_32, q_142_441, q_142_442, q_142_443, q_142_444, q_142_445, q_142_446, q_142_447, q_142_450, q_142_451, q_142_452, q_142_453, q_142_454, q_142_455, q_142_456, q_142_459, q_142_462, q_142_463, q_142_893, q_142_896, zk_0, zk_38, zs_0_0, zr_0_0, zs_0_1, zr_0_1, zs_0_2, zr_0_2, zs_0_3, zr_0_3, zs_0_4, zr_0_4, zs_0_5, zr_0_5, zs_0_6, zr_0_6, zs_0_7, zr_0_7, zs_38_1, zr_38_1, zs_38_2, zr_38_2, zs_38_3, zr_38_3, zs_38_4, zr_38_4, zs_38_8, zr_38_8, zs_38_17, zr_38_17, zs_38_18, zr_38_18, zs_38_19, zr_38_19, zs_38_22, zr_38_22, zs_38_23, zr_38_23, zs_38_25, zr_38_25, zs_38_26, zr_38_26, zs_38_28, zr_38_28, zs_38_29, zr_38_29, hZ, hn, hxs, e1, hx, a0, a1, a2, b0, b1, b2, d0, d1, d2, f0, f1, f2, g0, g1, g2, w2, w3, w4, w5, l0, l1, l2, l3, l4, c1, c2]
theorem lw_12 (hZ : St Z) {n i : Nat} {xs : Nat → Int32} (hn : gKd Z 1001 = (14, n)) (hi : i + 5 ≤ n) (hn2 : n ≤ 320) (hxs : I 1001 = xs) (hR : Rel I J) (hK : KO I) (hX : TX I) (hx : xs i &&& 31 = 12) : ∃ I2 J2, g_at 142 26 [.ref 1001, .ref 0, .ref 38, .int (nI i)] [] Z I J = g_at 142 18 [.ref 1001, .ref 0, .ref 38, .int (nI (i + 5))] [] Z I2 J2 ∧ Rel I2 J2 ∧ ∀ b, 1000 ≤ b → I2 b = I b := by
  obtain ⟨a, I1, J1, I2, J2, c1, c2, hr, h1, h2⟩ := p_first hZ hR (xs (i + 1)) (xs (i + 2))
  have e1 : I1 1001 = xs := by rw [h1 1001 (by omega)]; exact hxs
  obtain ⟨a0, a1, a2⟩ := ixs (j := i) (by omega)
  obtain ⟨b0, b1, b2⟩ := ixs (j := i + 1) (by omega)
  obtain ⟨d0, d1, d2⟩ := ixs (j := i + 2) (by omega)
  obtain ⟨f0, f1, f2⟩ := ixs (j := i + 3) (by omega)
  obtain ⟨g0, g1, g2⟩ := ixs (j := i + 4) (by omega)
  have w2 : nI i + 2 = nI (i + 2) := nI_ad i 2
  have w3 : nI i + 3 = nI (i + 3) := nI_ad i 3
  have w4 : nI i + 4 = nI (i + 4) := nI_ad i 4
  have w5 : nI i + 5 = nI (i + 5) := nI_ad i 5
  have l0 : i < n := by omega
  have l1 : i + 1 < n := by omega
  have l2 : i + 2 < n := by omega
  have l3 : i + 3 < n := by omega
  have l4 : i + 4 < n := by omega
  refine ⟨I2, J2, ?_, hr, h2⟩
  simp (decide := true) only [gN1_int, gN1_ref, gN1_null, gN1_long, gTg8_8, gTg8_14, gTg9_9, gTg9_13, gTgA_8, gTgA_9, gTgA_10, gTgA_11, gTgA_13, gTgA_14, gB01_0, gB01_1, gB01_b, List.cons_append, List.nil_append, Option.toList_some, Option.toList_none, Option.bind_some, ↓reduceIte, eq_self, not_true_eq_false, not_false_eq_true, b2i_0, b2i_1, up_eq, up_ne, up_up, up_sort, up_self, fl_at, nI_s, q_142_26, q_142_27, q_142_28, q_142_29, q_142_31, q_142_32, q_142_464, q_142_465, q_142_466, q_142_467, q_142_468, q_142_469, q_142_470, q_142_471, q_142_472, q_142_473, q_142_474, q_142_475, q_142_478, q_142_479, q_142_480, q_142_481, q_142_482, q_142_483, q_142_484, q_142_485, q_142_486, q_142_487, q_142_488, q_142_489, q_142_492, q_142_495, q_142_496, q_142_893, q_142_896, zk_0, zk_38, zs_0_0, zr_0_0, zs_0_1, zr_0_1, zs_0_2, zr_0_2, zs_0_3, zr_0_3, zs_0_4, zr_0_4, zs_0_5, zr_0_5, zs_0_6, zr_0_6, zs_0_7, zr_0_7, zs_38_1, zr_38_1, zs_38_2, zr_38_2, zs_38_3, zr_38_3, zs_38_4, zr_38_4, zs_38_8, zr_38_8, zs_38_17, zr_38_17, zs_38_18, zr_38_18, zs_38_19, zr_38_19, zs_38_22, zr_38_22, zs_38_23, zr_38_23, zs_38_25, zr_38_25, zs_38_26, zr_38_26, zs_38_28, zr_38_28, zs_38_29, zr_38_29, hZ, hn, hxs, e1, hx, a0, a1, a2, b0, b1, b2, d0, d1, d2, f0, f1, f2, g0, g1, g2, w2, w3, w4, w5, l0, l1, l2, l3, l4, c1, c2]
theorem lw_13 (hZ : St Z) {n i : Nat} {xs : Nat → Int32} (hn : gKd Z 1001 = (14, n)) (hi : i + 5 ≤ n) (hn2 : n ≤ 320) (hxs : I 1001 = xs) (hR : Rel I J) (hK : KO I) (hX : TX I) (hx : xs i &&& 31 = 13) : ∃ I2 J2, g_at 142 26 [.ref 1001, .ref 0, .ref 38, .int (nI i)] [] Z I J = g_at 142 18 [.ref 1001, .ref 0, .ref 38, .int (nI (i + 5))] [] Z I2 J2 ∧ Rel I2 J2 ∧ ∀ b, 1000 ≤ b → I2 b = I b := by
  obtain ⟨a, I1, J1, I2, J2, c1, c2, hr, h1, h2⟩ := p_who hZ hR (xs (i + 1))
  have e1 : I1 1001 = xs := by rw [h1 1001 (by omega)]; exact hxs
  obtain ⟨a0, a1, a2⟩ := ixs (j := i) (by omega)
  obtain ⟨b0, b1, b2⟩ := ixs (j := i + 1) (by omega)
  obtain ⟨d0, d1, d2⟩ := ixs (j := i + 2) (by omega)
  obtain ⟨f0, f1, f2⟩ := ixs (j := i + 3) (by omega)
  obtain ⟨g0, g1, g2⟩ := ixs (j := i + 4) (by omega)
  have w2 : nI i + 2 = nI (i + 2) := nI_ad i 2
  have w3 : nI i + 3 = nI (i + 3) := nI_ad i 3
  have w4 : nI i + 4 = nI (i + 4) := nI_ad i 4
  have w5 : nI i + 5 = nI (i + 5) := nI_ad i 5
  have l0 : i < n := by omega
  have l1 : i + 1 < n := by omega
  have l2 : i + 2 < n := by omega
  have l3 : i + 3 < n := by omega
  have l4 : i + 4 < n := by omega
  refine ⟨I2, J2, ?_, hr, h2⟩
  simp (decide := true) only [gN1_int, gN1_ref, gN1_null, gN1_long, gTg8_8, gTg8_14, gTg9_9, gTg9_13, gTgA_8, gTgA_9, gTgA_10, gTgA_11, gTgA_13, gTgA_14, gB01_0, gB01_1, gB01_b, List.cons_append, List.nil_append, Option.toList_some, Option.toList_none, Option.bind_some, ↓reduceIte, eq_self, not_true_eq_false, not_false_eq_true, b2i_0, b2i_1, up_eq, up_ne, up_up, up_sort, up_self, fl_at, nI_s, q_142_26, q_142_27, q_142_28, q_142_29, q_142_31, q_142_32, q_142_497, q_142_498, q_142_499, q_142_500, q_142_501, q_142_502, q_142_503, q_142_506, q_142_507, q_142_508, q_142_509, q_142_510, q_142_511, q_142_512, q_142_515, q_142_518, q_142_519, q_142_893, q_142_896, zk_0, zk_38, zs_0_0, zr_0_0, zs_0_1, zr_0_1, zs_0_2, zr_0_2, zs_0_3, zr_0_3, zs_0_4, zr_0_4, zs_0_5, zr_0_5, zs_0_6, zr_0_6, zs_0_7, zr_0_7, zs_38_1, zr_38_1, zs_38_2, zr_38_2, zs_38_3, zr_38_3, zs_38_4, zr_38_4, zs_38_8, zr_38_8, zs_38_17, zr_38_17, zs_38_18, zr_38_18, zs_38_19, zr_38_19, zs_38_22, zr_38_22, zs_38_23, zr_38_23, zs_38_25, zr_38_25, zs_38_26, zr_38_26, zs_38_28, zr_38_28, zs_38_29, zr_38_29, hZ, hn, hxs, e1, hx, a0, a1, a2, b0, b1, b2, d0, d1, d2, f0, f1, f2, g0, g1, g2, w2, w3, w4, w5, l0, l1, l2, l3, l4, c1, c2]
theorem lw_14 (hZ : St Z) {n i : Nat} {xs : Nat → Int32} (hn : gKd Z 1001 = (14, n)) (hi : i + 5 ≤ n) (hn2 : n ≤ 320) (hxs : I 1001 = xs) (hR : Rel I J) (hK : KO I) (hX : TX I) (hx : xs i &&& 31 = 14) : ∃ I2 J2, g_at 142 26 [.ref 1001, .ref 0, .ref 38, .int (nI i)] [] Z I J = g_at 142 18 [.ref 1001, .ref 0, .ref 38, .int (nI (i + 5))] [] Z I2 J2 ∧ Rel I2 J2 ∧ ∀ b, 1000 ≤ b → I2 b = I b := by
  obtain ⟨a, I1, J1, I2, J2, c1, c2, hr, h1, h2⟩ := p_ends hZ hR (xs (i + 1))
  have e1 : I1 1001 = xs := by rw [h1 1001 (by omega)]; exact hxs
  obtain ⟨a0, a1, a2⟩ := ixs (j := i) (by omega)
  obtain ⟨b0, b1, b2⟩ := ixs (j := i + 1) (by omega)
  obtain ⟨d0, d1, d2⟩ := ixs (j := i + 2) (by omega)
  obtain ⟨f0, f1, f2⟩ := ixs (j := i + 3) (by omega)
  obtain ⟨g0, g1, g2⟩ := ixs (j := i + 4) (by omega)
  have w2 : nI i + 2 = nI (i + 2) := nI_ad i 2
  have w3 : nI i + 3 = nI (i + 3) := nI_ad i 3
  have w4 : nI i + 4 = nI (i + 4) := nI_ad i 4
  have w5 : nI i + 5 = nI (i + 5) := nI_ad i 5
  have l0 : i < n := by omega
  have l1 : i + 1 < n := by omega
  have l2 : i + 2 < n := by omega
  have l3 : i + 3 < n := by omega
  have l4 : i + 4 < n := by omega
  refine ⟨I2, J2, ?_, hr, h2⟩
  simp (decide := true) only [gN1_int, gN1_ref, gN1_null, gN1_long, gTg8_8, gTg8_14, gTg9_9, gTg9_13, gTgA_8, gTgA_9, gTgA_10, gTgA_11, gTgA_13, gTgA_14, gB01_0, gB01_1, gB01_b, List.cons_append, List.nil_append, Option.toList_some, Option.toList_none, Option.bind_some, ↓reduceIte, eq_self, not_true_eq_false, not_false_eq_true, b2i_0, b2i_1, up_eq, up_ne, up_up, up_sort, up_self, fl_at, nI_s, q_142_26, q_142_27, q_142_28, q_142_29, q_142_31, q_142_32, q_142_520, q_142_521, q_142_522, q_142_523, q_142_524, q_142_525, q_142_526, q_142_529, q_142_530, q_142_531, q_142_532, q_142_533, q_142_534, q_142_535, q_142_538, q_142_541, q_142_542, q_142_893, q_142_896, zk_0, zk_38, zs_0_0, zr_0_0, zs_0_1, zr_0_1, zs_0_2, zr_0_2, zs_0_3, zr_0_3, zs_0_4, zr_0_4, zs_0_5, zr_0_5, zs_0_6, zr_0_6, zs_0_7, zr_0_7, zs_38_1, zr_38_1, zs_38_2, zr_38_2, zs_38_3, zr_38_3, zs_38_4, zr_38_4, zs_38_8, zr_38_8, zs_38_17, zr_38_17, zs_38_18, zr_38_18, zs_38_19, zr_38_19, zs_38_22, zr_38_22, zs_38_23, zr_38_23, zs_38_25, zr_38_25, zs_38_26, zr_38_26, zs_38_28, zr_38_28, zs_38_29, zr_38_29, hZ, hn, hxs, e1, hx, a0, a1, a2, b0, b1, b2, d0, d1, d2, f0, f1, f2, g0, g1, g2, w2, w3, w4, w5, l0, l1, l2, l3, l4, c1, c2]
theorem lw_15 (hZ : St Z) {n i : Nat} {xs : Nat → Int32} (hn : gKd Z 1001 = (14, n)) (hi : i + 5 ≤ n) (hn2 : n ≤ 320) (hxs : I 1001 = xs) (hR : Rel I J) (hK : KO I) (hX : TX I) (hx : xs i &&& 31 = 15) : ∃ I2 J2, g_at 142 26 [.ref 1001, .ref 0, .ref 38, .int (nI i)] [] Z I J = g_at 142 18 [.ref 1001, .ref 0, .ref 38, .int (nI (i + 5))] [] Z I2 J2 ∧ Rel I2 J2 ∧ ∀ b, 1000 ≤ b → I2 b = I b := by
  obtain ⟨a, I1, J1, I2, J2, c1, c2, hr, h1, h2⟩ := p_round hZ hR (xs (i + 1))
  have e1 : I1 1001 = xs := by rw [h1 1001 (by omega)]; exact hxs
  obtain ⟨a0, a1, a2⟩ := ixs (j := i) (by omega)
  obtain ⟨b0, b1, b2⟩ := ixs (j := i + 1) (by omega)
  obtain ⟨d0, d1, d2⟩ := ixs (j := i + 2) (by omega)
  obtain ⟨f0, f1, f2⟩ := ixs (j := i + 3) (by omega)
  obtain ⟨g0, g1, g2⟩ := ixs (j := i + 4) (by omega)
  have w2 : nI i + 2 = nI (i + 2) := nI_ad i 2
  have w3 : nI i + 3 = nI (i + 3) := nI_ad i 3
  have w4 : nI i + 4 = nI (i + 4) := nI_ad i 4
  have w5 : nI i + 5 = nI (i + 5) := nI_ad i 5
  have l0 : i < n := by omega
  have l1 : i + 1 < n := by omega
  have l2 : i + 2 < n := by omega
  have l3 : i + 3 < n := by omega
  have l4 : i + 4 < n := by omega
  refine ⟨I2, J2, ?_, hr, h2⟩
  simp (decide := true) only [gN1_int, gN1_ref, gN1_null, gN1_long, gTg8_8, gTg8_14, gTg9_9, gTg9_13, gTgA_8, gTgA_9, gTgA_10, gTgA_11, gTgA_13, gTgA_14, gB01_0, gB01_1, gB01_b, List.cons_append, List.nil_append, Option.toList_some, Option.toList_none, Option.bind_some, ↓reduceIte, eq_self, not_true_eq_false, not_false_eq_true, b2i_0, b2i_1, up_eq, up_ne, up_up, up_sort, up_self, fl_at, nI_s, q_142_26, q_142_27, q_142_28, q_142_29, q_142_31, q_142_32, q_142_543, q_142_544, q_142_545, q_142_546, q_142_547, q_142_548, q_142_549, q_142_552, q_142_553, q_142_554, q_142_555, q_142_556, q_142_557, q_142_558, q_142_561, q_142_564, q_142_565, q_142_893, q_142_896, zk_0, zk_38, zs_0_0, zr_0_0, zs_0_1, zr_0_1, zs_0_2, zr_0_2, zs_0_3, zr_0_3, zs_0_4, zr_0_4, zs_0_5, zr_0_5, zs_0_6, zr_0_6, zs_0_7, zr_0_7, zs_38_1, zr_38_1, zs_38_2, zr_38_2, zs_38_3, zr_38_3, zs_38_4, zr_38_4, zs_38_8, zr_38_8, zs_38_17, zr_38_17, zs_38_18, zr_38_18, zs_38_19, zr_38_19, zs_38_22, zr_38_22, zs_38_23, zr_38_23, zs_38_25, zr_38_25, zs_38_26, zr_38_26, zs_38_28, zr_38_28, zs_38_29, zr_38_29, hZ, hn, hxs, e1, hx, a0, a1, a2, b0, b1, b2, d0, d1, d2, f0, f1, f2, g0, g1, g2, w2, w3, w4, w5, l0, l1, l2, l3, l4, c1, c2]
theorem lw_16 (hZ : St Z) {n i : Nat} {xs : Nat → Int32} (hn : gKd Z 1001 = (14, n)) (hi : i + 5 ≤ n) (hn2 : n ≤ 320) (hxs : I 1001 = xs) (hR : Rel I J) (hK : KO I) (hX : TX I) (hx : xs i &&& 31 = 16) : ∃ I2 J2, g_at 142 26 [.ref 1001, .ref 0, .ref 38, .int (nI i)] [] Z I J = g_at 142 18 [.ref 1001, .ref 0, .ref 38, .int (nI (i + 5))] [] Z I2 J2 ∧ Rel I2 J2 ∧ ∀ b, 1000 ≤ b → I2 b = I b := by
  obtain ⟨a, I1, J1, I2, J2, c1, c2, hr, h1, h2⟩ := p_times hZ hR (xs (i + 1)) (xs (i + 2)) (xs (i + 3))
  have e1 : I1 1001 = xs := by rw [h1 1001 (by omega)]; exact hxs
  obtain ⟨a0, a1, a2⟩ := ixs (j := i) (by omega)
  obtain ⟨b0, b1, b2⟩ := ixs (j := i + 1) (by omega)
  obtain ⟨d0, d1, d2⟩ := ixs (j := i + 2) (by omega)
  obtain ⟨f0, f1, f2⟩ := ixs (j := i + 3) (by omega)
  obtain ⟨g0, g1, g2⟩ := ixs (j := i + 4) (by omega)
  have w2 : nI i + 2 = nI (i + 2) := nI_ad i 2
  have w3 : nI i + 3 = nI (i + 3) := nI_ad i 3
  have w4 : nI i + 4 = nI (i + 4) := nI_ad i 4
  have w5 : nI i + 5 = nI (i + 5) := nI_ad i 5
  have l0 : i < n := by omega
  have l1 : i + 1 < n := by omega
  have l2 : i + 2 < n := by omega
  have l3 : i + 3 < n := by omega
  have l4 : i + 4 < n := by omega
  refine ⟨I2, J2, ?_, hr, h2⟩
  simp (decide := true) only [gN1_int, gN1_ref, gN1_null, gN1_long, gTg8_8, gTg8_14, gTg9_9, gTg9_13, gTgA_8, gTgA_9, gTgA_10, gTgA_11, gTgA_13, gTgA_14, gB01_0, gB01_1, gB01_b, List.cons_append, List.nil_append, Option.toList_some, Option.toList_none, Option.bind_some, ↓reduceIte, eq_self, not_true_eq_false, not_false_eq_true, b2i_0, b2i_1, up_eq, up_ne, up_up, up_sort, up_self, fl_at, nI_s, q_142_26, q_142_27, q_142_28, q_142_29, q_142_31, q_142_32, q_142_566, q_142_567, q_142_568, q_142_569, q_142_570, q_142_571, q_142_572, q_142_573, q_142_574, q_142_575, q_142_576, q_142_577, q_142_578, q_142_579, q_142_580, q_142_581, q_142_582, q_142_585, q_142_586, q_142_587, q_142_588, q_142_589, q_142_590, q_142_591, q_142_592, q_142_593, q_142_594, q_142_595, q_142_596, q_142_597, q_142_598, q_142_599, q_142_600, q_142_601, q_142_604, q_142_607, q_142_608, q_142_893, q_142_896, zk_0, zk_38, zs_0_0, zr_0_0, zs_0_1, zr_0_1, zs_0_2, zr_0_2, zs_0_3, zr_0_3, zs_0_4, zr_0_4, zs_0_5, zr_0_5, zs_0_6, zr_0_6, zs_0_7, zr_0_7, zs_38_1, zr_38_1, zs_38_2, zr_38_2, zs_38_3, zr_38_3, zs_38_4, zr_38_4, zs_38_8, zr_38_8, zs_38_17, zr_38_17, zs_38_18, zr_38_18, zs_38_19, zr_38_19, zs_38_22, zr_38_22, zs_38_23, zr_38_23, zs_38_25, zr_38_25, zs_38_26, zr_38_26, zs_38_28, zr_38_28, zs_38_29, zr_38_29, hZ, hn, hxs, e1, hx, a0, a1, a2, b0, b1, b2, d0, d1, d2, f0, f1, f2, g0, g1, g2, w2, w3, w4, w5, l0, l1, l2, l3, l4, c1, c2]
theorem lw_17 (hZ : St Z) {n i : Nat} {xs : Nat → Int32} (hn : gKd Z 1001 = (14, n)) (hi : i + 5 ≤ n) (hn2 : n ≤ 320) (hxs : I 1001 = xs) (hR : Rel I J) (hK : KO I) (hX : TX I) (hx : xs i &&& 31 = 17) : ∃ I2 J2, g_at 142 26 [.ref 1001, .ref 0, .ref 38, .int (nI i)] [] Z I J = g_at 142 18 [.ref 1001, .ref 0, .ref 38, .int (nI (i + 5))] [] Z I2 J2 ∧ Rel I2 J2 ∧ ∀ b, 1000 ≤ b → I2 b = I b := by
  obtain ⟨a, I1, J1, I2, J2, c1, c2, hr, h1, h2⟩ := p_apart hZ hR (xs (i + 1)) (xs (i + 2)) (xs (i + 3))
  have e1 : I1 1001 = xs := by rw [h1 1001 (by omega)]; exact hxs
  obtain ⟨a0, a1, a2⟩ := ixs (j := i) (by omega)
  obtain ⟨b0, b1, b2⟩ := ixs (j := i + 1) (by omega)
  obtain ⟨d0, d1, d2⟩ := ixs (j := i + 2) (by omega)
  obtain ⟨f0, f1, f2⟩ := ixs (j := i + 3) (by omega)
  obtain ⟨g0, g1, g2⟩ := ixs (j := i + 4) (by omega)
  have w2 : nI i + 2 = nI (i + 2) := nI_ad i 2
  have w3 : nI i + 3 = nI (i + 3) := nI_ad i 3
  have w4 : nI i + 4 = nI (i + 4) := nI_ad i 4
  have w5 : nI i + 5 = nI (i + 5) := nI_ad i 5
  have l0 : i < n := by omega
  have l1 : i + 1 < n := by omega
  have l2 : i + 2 < n := by omega
  have l3 : i + 3 < n := by omega
  have l4 : i + 4 < n := by omega
  refine ⟨I2, J2, ?_, hr, h2⟩
  simp (decide := true) only [gN1_int, gN1_ref, gN1_null, gN1_long, gTg8_8, gTg8_14, gTg9_9, gTg9_13, gTgA_8, gTgA_9, gTgA_10, gTgA_11, gTgA_13, gTgA_14, gB01_0, gB01_1, gB01_b, List.cons_append, List.nil_append, Option.toList_some, Option.toList_none, Option.bind_some, ↓reduceIte, eq_self, not_true_eq_false, not_false_eq_true, b2i_0, b2i_1, up_eq, up_ne, up_up, up_sort, up_self, fl_at, nI_s, q_142_26, q_142_27, q_142_28, q_142_29, q_142_31, q_142_32, q_142_609, q_142_610, q_142_611, q_142_612, q_142_613, q_142_614, q_142_615, q_142_616, q_142_617, q_142_618, q_142_619, q_142_620, q_142_621, q_142_622, q_142_623, q_142_624, q_142_625, q_142_628, q_142_629, q_142_630, q_142_631, q_142_632, q_142_633, q_142_634, q_142_635, q_142_636, q_142_637, q_142_638, q_142_639, q_142_640, q_142_641, q_142_642, q_142_643, q_142_644, q_142_647, q_142_650, q_142_651, q_142_893, q_142_896, zk_0, zk_38, zs_0_0, zr_0_0, zs_0_1, zr_0_1, zs_0_2, zr_0_2, zs_0_3, zr_0_3, zs_0_4, zr_0_4, zs_0_5, zr_0_5, zs_0_6, zr_0_6, zs_0_7, zr_0_7, zs_38_1, zr_38_1, zs_38_2, zr_38_2, zs_38_3, zr_38_3, zs_38_4, zr_38_4, zs_38_8, zr_38_8, zs_38_17, zr_38_17, zs_38_18, zr_38_18, zs_38_19, zr_38_19, zs_38_22, zr_38_22, zs_38_23, zr_38_23, zs_38_25, zr_38_25, zs_38_26, zr_38_26, zs_38_28, zr_38_28, zs_38_29, zr_38_29, hZ, hn, hxs, e1, hx, a0, a1, a2, b0, b1, b2, d0, d1, d2, f0, f1, f2, g0, g1, g2, w2, w3, w4, w5, l0, l1, l2, l3, l4, c1, c2]
theorem lw_18 (hZ : St Z) {n i : Nat} {xs : Nat → Int32} (hn : gKd Z 1001 = (14, n)) (hi : i + 5 ≤ n) (hn2 : n ≤ 320) (hxs : I 1001 = xs) (hR : Rel I J) (hK : KO I) (hX : TX I) (hx : xs i &&& 31 = 18) : ∃ I2 J2, g_at 142 26 [.ref 1001, .ref 0, .ref 38, .int (nI i)] [] Z I J = g_at 142 18 [.ref 1001, .ref 0, .ref 38, .int (nI (i + 5))] [] Z I2 J2 ∧ Rel I2 J2 ∧ ∀ b, 1000 ≤ b → I2 b = I b := by
  obtain ⟨a, I1, J1, I2, J2, c1, c2, hr, h1, h2⟩ := p_change hZ hR (xs (i + 1)) (xs (i + 2)) (xs (i + 3)) (xs (i + 4))
  have e1 : I1 1001 = xs := by rw [h1 1001 (by omega)]; exact hxs
  obtain ⟨a0, a1, a2⟩ := ixs (j := i) (by omega)
  obtain ⟨b0, b1, b2⟩ := ixs (j := i + 1) (by omega)
  obtain ⟨d0, d1, d2⟩ := ixs (j := i + 2) (by omega)
  obtain ⟨f0, f1, f2⟩ := ixs (j := i + 3) (by omega)
  obtain ⟨g0, g1, g2⟩ := ixs (j := i + 4) (by omega)
  have w2 : nI i + 2 = nI (i + 2) := nI_ad i 2
  have w3 : nI i + 3 = nI (i + 3) := nI_ad i 3
  have w4 : nI i + 4 = nI (i + 4) := nI_ad i 4
  have w5 : nI i + 5 = nI (i + 5) := nI_ad i 5
  have l0 : i < n := by omega
  have l1 : i + 1 < n := by omega
  have l2 : i + 2 < n := by omega
  have l3 : i + 3 < n := by omega
  have l4 : i + 4 < n := by omega
  refine ⟨I2, J2, ?_, hr, h2⟩
  simp (decide := true) only [gN1_int, gN1_ref, gN1_null, gN1_long, gTg8_8, gTg8_14, gTg9_9, gTg9_13, gTgA_8, gTgA_9, gTgA_10, gTgA_11, gTgA_13, gTgA_14, gB01_0, gB01_1, gB01_b, List.cons_append, List.nil_append, Option.toList_some, Option.toList_none, Option.bind_some, ↓reduceIte, eq_self, not_true_eq_false, not_false_eq_true, b2i_0, b2i_1, up_eq, up_ne, up_up, up_sort, up_self, fl_at, nI_s, q_142_26, q_142_27, q_142_28, q_142_29, q_142_31, q_142_32, q_142_652, q_142_653, q_142_654, q_142_655, q_142_656, q_142_657, q_142_658, q_142_659, q_142_660, q_142_661, q_142_662, q_142_663, q_142_664, q_142_665, q_142_666, q_142_667, q_142_668, q_142_669, q_142_670, q_142_671, q_142_672, q_142_673, q_142_676, q_142_677, q_142_678, q_142_679, q_142_680, q_142_681, q_142_682, q_142_683, q_142_684, q_142_685, q_142_686, q_142_687, q_142_688, q_142_689, q_142_690, q_142_691, q_142_692, q_142_693, q_142_694, q_142_695, q_142_696, q_142_697, q_142_700, q_142_703, q_142_704, q_142_893, q_142_896, zk_0, zk_38, zs_0_0, zr_0_0, zs_0_1, zr_0_1, zs_0_2, zr_0_2, zs_0_3, zr_0_3, zs_0_4, zr_0_4, zs_0_5, zr_0_5, zs_0_6, zr_0_6, zs_0_7, zr_0_7, zs_38_1, zr_38_1, zs_38_2, zr_38_2, zs_38_3, zr_38_3, zs_38_4, zr_38_4, zs_38_8, zr_38_8, zs_38_17, zr_38_17, zs_38_18, zr_38_18, zs_38_19, zr_38_19, zs_38_22, zr_38_22, zs_38_23, zr_38_23, zs_38_25, zr_38_25, zs_38_26, zr_38_26, zs_38_28, zr_38_28, zs_38_29, zr_38_29, hZ, hn, hxs, e1, hx, a0, a1, a2, b0, b1, b2, d0, d1, d2, f0, f1, f2, g0, g1, g2, w2, w3, w4, w5, l0, l1, l2, l3, l4, c1, c2]
theorem lw_19 (hZ : St Z) {n i : Nat} {xs : Nat → Int32} (hn : gKd Z 1001 = (14, n)) (hi : i + 5 ≤ n) (hn2 : n ≤ 320) (hxs : I 1001 = xs) (hR : Rel I J) (hK : KO I) (hX : TX I) (hx : xs i &&& 31 = 19) : ∃ I2 J2, g_at 142 26 [.ref 1001, .ref 0, .ref 38, .int (nI i)] [] Z I J = g_at 142 18 [.ref 1001, .ref 0, .ref 38, .int (nI (i + 5))] [] Z I2 J2 ∧ Rel I2 J2 ∧ ∀ b, 1000 ≤ b → I2 b = I b := by
  obtain ⟨a, I1, J1, I2, J2, c1, c2, hr, h1, h2⟩ := p_over hZ hR (xs (i + 1)) (xs (i + 2))
  have e1 : I1 1001 = xs := by rw [h1 1001 (by omega)]; exact hxs
  obtain ⟨a0, a1, a2⟩ := ixs (j := i) (by omega)
  obtain ⟨b0, b1, b2⟩ := ixs (j := i + 1) (by omega)
  obtain ⟨d0, d1, d2⟩ := ixs (j := i + 2) (by omega)
  obtain ⟨f0, f1, f2⟩ := ixs (j := i + 3) (by omega)
  obtain ⟨g0, g1, g2⟩ := ixs (j := i + 4) (by omega)
  have w2 : nI i + 2 = nI (i + 2) := nI_ad i 2
  have w3 : nI i + 3 = nI (i + 3) := nI_ad i 3
  have w4 : nI i + 4 = nI (i + 4) := nI_ad i 4
  have w5 : nI i + 5 = nI (i + 5) := nI_ad i 5
  have l0 : i < n := by omega
  have l1 : i + 1 < n := by omega
  have l2 : i + 2 < n := by omega
  have l3 : i + 3 < n := by omega
  have l4 : i + 4 < n := by omega
  refine ⟨I2, J2, ?_, hr, h2⟩
  simp (decide := true) only [gN1_int, gN1_ref, gN1_null, gN1_long, gTg8_8, gTg8_14, gTg9_9, gTg9_13, gTgA_8, gTgA_9, gTgA_10, gTgA_11, gTgA_13, gTgA_14, gB01_0, gB01_1, gB01_b, List.cons_append, List.nil_append, Option.toList_some, Option.toList_none, Option.bind_some, ↓reduceIte, eq_self, not_true_eq_false, not_false_eq_true, b2i_0, b2i_1, up_eq, up_ne, up_up, up_sort, up_self, fl_at, nI_s, q_142_26, q_142_27, q_142_28, q_142_29, q_142_31, q_142_32, q_142_705, q_142_706, q_142_707, q_142_708, q_142_709, q_142_710, q_142_711, q_142_712, q_142_713, q_142_714, q_142_715, q_142_716, q_142_719, q_142_720, q_142_721, q_142_722, q_142_723, q_142_724, q_142_725, q_142_726, q_142_727, q_142_728, q_142_729, q_142_730, q_142_733, q_142_736, q_142_737, q_142_893, q_142_896, zk_0, zk_38, zs_0_0, zr_0_0, zs_0_1, zr_0_1, zs_0_2, zr_0_2, zs_0_3, zr_0_3, zs_0_4, zr_0_4, zs_0_5, zr_0_5, zs_0_6, zr_0_6, zs_0_7, zr_0_7, zs_38_1, zr_38_1, zs_38_2, zr_38_2, zs_38_3, zr_38_3, zs_38_4, zr_38_4, zs_38_8, zr_38_8, zs_38_17, zr_38_17, zs_38_18, zr_38_18, zs_38_19, zr_38_19, zs_38_22, zr_38_22, zs_38_23, zr_38_23, zs_38_25, zr_38_25, zs_38_26, zr_38_26, zs_38_28, zr_38_28, zs_38_29, zr_38_29, hZ, hn, hxs, e1, hx, a0, a1, a2, b0, b1, b2, d0, d1, d2, f0, f1, f2, g0, g1, g2, w2, w3, w4, w5, l0, l1, l2, l3, l4, c1, c2]
theorem lw_20 (hZ : St Z) {n i : Nat} {xs : Nat → Int32} (hn : gKd Z 1001 = (14, n)) (hi : i + 5 ≤ n) (hn2 : n ≤ 320) (hxs : I 1001 = xs) (hR : Rel I J) (hK : KO I) (hX : TX I) (hx : xs i &&& 31 = 20) : ∃ I2 J2, g_at 142 26 [.ref 1001, .ref 0, .ref 38, .int (nI i)] [] Z I J = g_at 142 18 [.ref 1001, .ref 0, .ref 38, .int (nI (i + 5))] [] Z I2 J2 ∧ Rel I2 J2 ∧ ∀ b, 1000 ≤ b → I2 b = I b := by
  obtain ⟨a, I1, J1, I2, J2, c1, c2, hr, h1, h2⟩ := p_odds hZ hR (xs (i + 1)) (xs (i + 2)) (xs (i + 3)) (xs (i + 4))
  have e1 : I1 1001 = xs := by rw [h1 1001 (by omega)]; exact hxs
  obtain ⟨a0, a1, a2⟩ := ixs (j := i) (by omega)
  obtain ⟨b0, b1, b2⟩ := ixs (j := i + 1) (by omega)
  obtain ⟨d0, d1, d2⟩ := ixs (j := i + 2) (by omega)
  obtain ⟨f0, f1, f2⟩ := ixs (j := i + 3) (by omega)
  obtain ⟨g0, g1, g2⟩ := ixs (j := i + 4) (by omega)
  have w2 : nI i + 2 = nI (i + 2) := nI_ad i 2
  have w3 : nI i + 3 = nI (i + 3) := nI_ad i 3
  have w4 : nI i + 4 = nI (i + 4) := nI_ad i 4
  have w5 : nI i + 5 = nI (i + 5) := nI_ad i 5
  have l0 : i < n := by omega
  have l1 : i + 1 < n := by omega
  have l2 : i + 2 < n := by omega
  have l3 : i + 3 < n := by omega
  have l4 : i + 4 < n := by omega
  refine ⟨I2, J2, ?_, hr, h2⟩
  simp (decide := true) only [gN1_int, gN1_ref, gN1_null, gN1_long, gTg8_8, gTg8_14, gTg9_9, gTg9_13, gTgA_8, gTgA_9, gTgA_10, gTgA_11, gTgA_13, gTgA_14, gB01_0, gB01_1, gB01_b, List.cons_append, List.nil_append, Option.toList_some, Option.toList_none, Option.bind_some, ↓reduceIte, eq_self, not_true_eq_false, not_false_eq_true, b2i_0, b2i_1, up_eq, up_ne, up_up, up_sort, up_self, fl_at, nI_s, q_142_26, q_142_27, q_142_28, q_142_29, q_142_31, q_142_32, q_142_738, q_142_739, q_142_740, q_142_741, q_142_742, q_142_743, q_142_744, q_142_745, q_142_746, q_142_747, q_142_748, q_142_749, q_142_750, q_142_751, q_142_752, q_142_753, q_142_754, q_142_755, q_142_756, q_142_757, q_142_758, q_142_759, q_142_762, q_142_763, q_142_764, q_142_765, q_142_766, q_142_767, q_142_768, q_142_769, q_142_770, q_142_771, q_142_772, q_142_773, q_142_774, q_142_775, q_142_776, q_142_777, q_142_778, q_142_779, q_142_780, q_142_781, q_142_782, q_142_783, q_142_786, q_142_789, q_142_790, q_142_893, q_142_896, zk_0, zk_38, zs_0_0, zr_0_0, zs_0_1, zr_0_1, zs_0_2, zr_0_2, zs_0_3, zr_0_3, zs_0_4, zr_0_4, zs_0_5, zr_0_5, zs_0_6, zr_0_6, zs_0_7, zr_0_7, zs_38_1, zr_38_1, zs_38_2, zr_38_2, zs_38_3, zr_38_3, zs_38_4, zr_38_4, zs_38_8, zr_38_8, zs_38_17, zr_38_17, zs_38_18, zr_38_18, zs_38_19, zr_38_19, zs_38_22, zr_38_22, zs_38_23, zr_38_23, zs_38_25, zr_38_25, zs_38_26, zr_38_26, zs_38_28, zr_38_28, zs_38_29, zr_38_29, hZ, hn, hxs, e1, hx, a0, a1, a2, b0, b1, b2, d0, d1, d2, f0, f1, f2, g0, g1, g2, w2, w3, w4, w5, l0, l1, l2, l3, l4, c1, c2]
theorem lw_21 (hZ : St Z) {n i : Nat} {xs : Nat → Int32} (hn : gKd Z 1001 = (14, n)) (hi : i + 5 ≤ n) (hn2 : n ≤ 320) (hxs : I 1001 = xs) (hR : Rel I J) (hK : KO I) (hX : TX I) (hx : xs i &&& 31 = 21) : ∃ I2 J2, g_at 142 26 [.ref 1001, .ref 0, .ref 38, .int (nI i)] [] Z I J = g_at 142 18 [.ref 1001, .ref 0, .ref 38, .int (nI (i + 5))] [] Z I2 J2 ∧ Rel I2 J2 ∧ ∀ b, 1000 ≤ b → I2 b = I b := by
  obtain ⟨a, I1, J1, I2, J2, c1, c2, hr, h1, h2⟩ := p_seen hZ hR (xs (i + 1)) (xs (i + 2))
  have e1 : I1 1001 = xs := by rw [h1 1001 (by omega)]; exact hxs
  obtain ⟨a0, a1, a2⟩ := ixs (j := i) (by omega)
  obtain ⟨b0, b1, b2⟩ := ixs (j := i + 1) (by omega)
  obtain ⟨d0, d1, d2⟩ := ixs (j := i + 2) (by omega)
  obtain ⟨f0, f1, f2⟩ := ixs (j := i + 3) (by omega)
  obtain ⟨g0, g1, g2⟩ := ixs (j := i + 4) (by omega)
  have w2 : nI i + 2 = nI (i + 2) := nI_ad i 2
  have w3 : nI i + 3 = nI (i + 3) := nI_ad i 3
  have w4 : nI i + 4 = nI (i + 4) := nI_ad i 4
  have w5 : nI i + 5 = nI (i + 5) := nI_ad i 5
  have l0 : i < n := by omega
  have l1 : i + 1 < n := by omega
  have l2 : i + 2 < n := by omega
  have l3 : i + 3 < n := by omega
  have l4 : i + 4 < n := by omega
  refine ⟨I2, J2, ?_, hr, h2⟩
  simp (decide := true) only [gN1_int, gN1_ref, gN1_null, gN1_long, gTg8_8, gTg8_14, gTg9_9, gTg9_13, gTgA_8, gTgA_9, gTgA_10, gTgA_11, gTgA_13, gTgA_14, gB01_0, gB01_1, gB01_b, List.cons_append, List.nil_append, Option.toList_some, Option.toList_none, Option.bind_some, ↓reduceIte, eq_self, not_true_eq_false, not_false_eq_true, b2i_0, b2i_1, up_eq, up_ne, up_up, up_sort, up_self, fl_at, nI_s, q_142_26, q_142_27, q_142_28, q_142_29, q_142_31, q_142_32, q_142_791, q_142_792, q_142_793, q_142_794, q_142_795, q_142_796, q_142_797, q_142_798, q_142_799, q_142_800, q_142_801, q_142_802, q_142_805, q_142_806, q_142_807, q_142_808, q_142_809, q_142_810, q_142_811, q_142_812, q_142_813, q_142_814, q_142_815, q_142_816, q_142_819, q_142_822, q_142_823, q_142_893, q_142_896, zk_0, zk_38, zs_0_0, zr_0_0, zs_0_1, zr_0_1, zs_0_2, zr_0_2, zs_0_3, zr_0_3, zs_0_4, zr_0_4, zs_0_5, zr_0_5, zs_0_6, zr_0_6, zs_0_7, zr_0_7, zs_38_1, zr_38_1, zs_38_2, zr_38_2, zs_38_3, zr_38_3, zs_38_4, zr_38_4, zs_38_8, zr_38_8, zs_38_17, zr_38_17, zs_38_18, zr_38_18, zs_38_19, zr_38_19, zs_38_22, zr_38_22, zs_38_23, zr_38_23, zs_38_25, zr_38_25, zs_38_26, zr_38_26, zs_38_28, zr_38_28, zs_38_29, zr_38_29, hZ, hn, hxs, e1, hx, a0, a1, a2, b0, b1, b2, d0, d1, d2, f0, f1, f2, g0, g1, g2, w2, w3, w4, w5, l0, l1, l2, l3, l4, c1, c2]
theorem lw_22 (hZ : St Z) {n i : Nat} {xs : Nat → Int32} (hn : gKd Z 1001 = (14, n)) (hi : i + 5 ≤ n) (hn2 : n ≤ 320) (hxs : I 1001 = xs) (hR : Rel I J) (hK : KO I) (hX : TX I) (hx : xs i &&& 31 = 22) : ∃ I2 J2, g_at 142 26 [.ref 1001, .ref 0, .ref 38, .int (nI i)] [] Z I J = g_at 142 18 [.ref 1001, .ref 0, .ref 38, .int (nI (i + 5))] [] Z I2 J2 ∧ Rel I2 J2 ∧ ∀ b, 1000 ≤ b → I2 b = I b := by
  obtain ⟨a, I1, J1, I2, J2, c1, c2, hr, h1, h2⟩ := p_forget hZ hR
  have e1 : I1 1001 = xs := by rw [h1 1001 (by omega)]; exact hxs
  obtain ⟨a0, a1, a2⟩ := ixs (j := i) (by omega)
  obtain ⟨b0, b1, b2⟩ := ixs (j := i + 1) (by omega)
  obtain ⟨d0, d1, d2⟩ := ixs (j := i + 2) (by omega)
  obtain ⟨f0, f1, f2⟩ := ixs (j := i + 3) (by omega)
  obtain ⟨g0, g1, g2⟩ := ixs (j := i + 4) (by omega)
  have w2 : nI i + 2 = nI (i + 2) := nI_ad i 2
  have w3 : nI i + 3 = nI (i + 3) := nI_ad i 3
  have w4 : nI i + 4 = nI (i + 4) := nI_ad i 4
  have w5 : nI i + 5 = nI (i + 5) := nI_ad i 5
  have l0 : i < n := by omega
  have l1 : i + 1 < n := by omega
  have l2 : i + 2 < n := by omega
  have l3 : i + 3 < n := by omega
  have l4 : i + 4 < n := by omega
  refine ⟨I2, J2, ?_, hr, h2⟩
  simp (decide := true) only [gN1_int, gN1_ref, gN1_null, gN1_long, gTg8_8, gTg8_14, gTg9_9, gTg9_13, gTgA_8, gTgA_9, gTgA_10, gTgA_11, gTgA_13, gTgA_14, gB01_0, gB01_1, gB01_b, List.cons_append, List.nil_append, Option.toList_some, Option.toList_none, Option.bind_some, ↓reduceIte, eq_self, not_true_eq_false, not_false_eq_true, b2i_0, b2i_1, up_eq, up_ne, up_up, up_sort, up_self, fl_at, nI_s, q_142_26, q_142_27, q_142_28, q_142_29, q_142_31, q_142_32, q_142_824, q_142_825, q_142_828, q_142_829, q_142_832, q_142_835, q_142_836, q_142_893, q_142_896, zk_0, zk_38, zs_0_0, zr_0_0, zs_0_1, zr_0_1, zs_0_2, zr_0_2, zs_0_3, zr_0_3, zs_0_4, zr_0_4, zs_0_5, zr_0_5, zs_0_6, zr_0_6, zs_0_7, zr_0_7, zs_38_1, zr_38_1, zs_38_2, zr_38_2, zs_38_3, zr_38_3, zs_38_4, zr_38_4, zs_38_8, zr_38_8, zs_38_17, zr_38_17, zs_38_18, zr_38_18, zs_38_19, zr_38_19, zs_38_22, zr_38_22, zs_38_23, zr_38_23, zs_38_25, zr_38_25, zs_38_26, zr_38_26, zs_38_28, zr_38_28, zs_38_29, zr_38_29, hZ, hn, hxs, e1, hx, a0, a1, a2, b0, b1, b2, d0, d1, d2, f0, f1, f2, g0, g1, g2, w2, w3, w4, w5, l0, l1, l2, l3, l4, c1, c2]
theorem lw_23 (hZ : St Z) {n i : Nat} {xs : Nat → Int32} (hn : gKd Z 1001 = (14, n)) (hi : i + 5 ≤ n) (hn2 : n ≤ 320) (hxs : I 1001 = xs) (hR : Rel I J) (hK : KO I) (hX : TX I) (hx : xs i &&& 31 = 23) : ∃ I2 J2, g_at 142 26 [.ref 1001, .ref 0, .ref 38, .int (nI i)] [] Z I J = g_at 142 18 [.ref 1001, .ref 0, .ref 38, .int (nI (i + 5))] [] Z I2 J2 ∧ Rel I2 J2 ∧ ∀ b, 1000 ≤ b → I2 b = I b := by
  obtain ⟨a, I1, J1, I2, J2, c1, c2, hr, h1, h2⟩ := p_asleep hZ hR (xs (i + 1)) (xs (i + 2))
  have e1 : I1 1001 = xs := by rw [h1 1001 (by omega)]; exact hxs
  obtain ⟨a0, a1, a2⟩ := ixs (j := i) (by omega)
  obtain ⟨b0, b1, b2⟩ := ixs (j := i + 1) (by omega)
  obtain ⟨d0, d1, d2⟩ := ixs (j := i + 2) (by omega)
  obtain ⟨f0, f1, f2⟩ := ixs (j := i + 3) (by omega)
  obtain ⟨g0, g1, g2⟩ := ixs (j := i + 4) (by omega)
  have w2 : nI i + 2 = nI (i + 2) := nI_ad i 2
  have w3 : nI i + 3 = nI (i + 3) := nI_ad i 3
  have w4 : nI i + 4 = nI (i + 4) := nI_ad i 4
  have w5 : nI i + 5 = nI (i + 5) := nI_ad i 5
  have l0 : i < n := by omega
  have l1 : i + 1 < n := by omega
  have l2 : i + 2 < n := by omega
  have l3 : i + 3 < n := by omega
  have l4 : i + 4 < n := by omega
  refine ⟨I2, J2, ?_, hr, h2⟩
  simp (decide := true) only [gN1_int, gN1_ref, gN1_null, gN1_long, gTg8_8, gTg8_14, gTg9_9, gTg9_13, gTgA_8, gTgA_9, gTgA_10, gTgA_11, gTgA_13, gTgA_14, gB01_0, gB01_1, gB01_b, List.cons_append, List.nil_append, Option.toList_some, Option.toList_none, Option.bind_some, ↓reduceIte, eq_self, not_true_eq_false, not_false_eq_true, b2i_0, b2i_1, up_eq, up_ne, up_up, up_sort, up_self, fl_at, nI_s, q_142_26, q_142_27, q_142_28, q_142_29, q_142_31, q_142_32, q_142_837, q_142_838, q_142_839, q_142_840, q_142_841, q_142_842, q_142_843, q_142_844, q_142_845, q_142_846, q_142_847, q_142_848, q_142_851, q_142_852, q_142_853, q_142_854, q_142_855, q_142_856, q_142_857, q_142_858, q_142_859, q_142_860, q_142_861, q_142_862, q_142_865, q_142_868, q_142_869, q_142_893, q_142_896, zk_0, zk_38, zs_0_0, zr_0_0, zs_0_1, zr_0_1, zs_0_2, zr_0_2, zs_0_3, zr_0_3, zs_0_4, zr_0_4, zs_0_5, zr_0_5, zs_0_6, zr_0_6, zs_0_7, zr_0_7, zs_38_1, zr_38_1, zs_38_2, zr_38_2, zs_38_3, zr_38_3, zs_38_4, zr_38_4, zs_38_8, zr_38_8, zs_38_17, zr_38_17, zs_38_18, zr_38_18, zs_38_19, zr_38_19, zs_38_22, zr_38_22, zs_38_23, zr_38_23, zs_38_25, zr_38_25, zs_38_26, zr_38_26, zs_38_28, zr_38_28, zs_38_29, zr_38_29, hZ, hn, hxs, e1, hx, a0, a1, a2, b0, b1, b2, d0, d1, d2, f0, f1, f2, g0, g1, g2, w2, w3, w4, w5, l0, l1, l2, l3, l4, c1, c2]
theorem lw_24 (hZ : St Z) {n i : Nat} {xs : Nat → Int32} (hn : gKd Z 1001 = (14, n)) (hi : i + 5 ≤ n) (hn2 : n ≤ 320) (hxs : I 1001 = xs) (hR : Rel I J) (hK : KO I) (hX : TX I) (hx : xs i &&& 31 = 24) : ∃ I2 J2, g_at 142 26 [.ref 1001, .ref 0, .ref 38, .int (nI i)] [] Z I J = g_at 142 18 [.ref 1001, .ref 0, .ref 38, .int (nI (i + 5))] [] Z I2 J2 ∧ Rel I2 J2 ∧ ∀ b, 1000 ≤ b → I2 b = I b := by
  obtain ⟨a, I1, J1, I2, J2, c1, c2, hr, h1, h2⟩ := p_count hZ hR (xs (i + 1))
  have e1 : I1 1001 = xs := by rw [h1 1001 (by omega)]; exact hxs
  obtain ⟨a0, a1, a2⟩ := ixs (j := i) (by omega)
  obtain ⟨b0, b1, b2⟩ := ixs (j := i + 1) (by omega)
  obtain ⟨d0, d1, d2⟩ := ixs (j := i + 2) (by omega)
  obtain ⟨f0, f1, f2⟩ := ixs (j := i + 3) (by omega)
  obtain ⟨g0, g1, g2⟩ := ixs (j := i + 4) (by omega)
  have w2 : nI i + 2 = nI (i + 2) := nI_ad i 2
  have w3 : nI i + 3 = nI (i + 3) := nI_ad i 3
  have w4 : nI i + 4 = nI (i + 4) := nI_ad i 4
  have w5 : nI i + 5 = nI (i + 5) := nI_ad i 5
  have l0 : i < n := by omega
  have l1 : i + 1 < n := by omega
  have l2 : i + 2 < n := by omega
  have l3 : i + 3 < n := by omega
  have l4 : i + 4 < n := by omega
  refine ⟨I2, J2, ?_, hr, h2⟩
  simp (decide := true) only [gN1_int, gN1_ref, gN1_null, gN1_long, gTg8_8, gTg8_14, gTg9_9, gTg9_13, gTgA_8, gTgA_9, gTgA_10, gTgA_11, gTgA_13, gTgA_14, gB01_0, gB01_1, gB01_b, List.cons_append, List.nil_append, Option.toList_some, Option.toList_none, Option.bind_some, ↓reduceIte, eq_self, not_true_eq_false, not_false_eq_true, b2i_0, b2i_1, up_eq, up_ne, up_up, up_sort, up_self, fl_at, nI_s, q_142_26, q_142_27, q_142_28, q_142_29, q_142_31, q_142_32, q_142_870, q_142_871, q_142_872, q_142_873, q_142_874, q_142_875, q_142_876, q_142_879, q_142_880, q_142_881, q_142_882, q_142_883, q_142_884, q_142_885, q_142_888, q_142_891, q_142_892, q_142_893, q_142_896, zk_0, zk_38, zs_0_0, zr_0_0, zs_0_1, zr_0_1, zs_0_2, zr_0_2, zs_0_3, zr_0_3, zs_0_4, zr_0_4, zs_0_5, zr_0_5, zs_0_6, zr_0_6, zs_0_7, zr_0_7, zs_38_1, zr_38_1, zs_38_2, zr_38_2, zs_38_3, zr_38_3, zs_38_4, zr_38_4, zs_38_8, zr_38_8, zs_38_17, zr_38_17, zs_38_18, zr_38_18, zs_38_19, zr_38_19, zs_38_22, zr_38_22, zs_38_23, zr_38_23, zs_38_25, zr_38_25, zs_38_26, zr_38_26, zs_38_28, zr_38_28, zs_38_29, zr_38_29, hZ, hn, hxs, e1, hx, a0, a1, a2, b0, b1, b2, d0, d1, d2, f0, f1, f2, g0, g1, g2, w2, w3, w4, w5, l0, l1, l2, l3, l4, c1, c2]
theorem lw_rest (hZ : St Z) {n i : Nat} {xs : Nat → Int32} (hn : gKd Z 1001 = (14, n)) (hi : i + 5 ≤ n) (hn2 : n ≤ 320) (hxs : I 1001 = xs) (hR : Rel I J) (hK : KO I) (hX : TX I) (n0 : ∀ k, k < 25 → ¬ xs i &&& 31 = nI k) : g_at 142 26 [.ref 1001, .ref 0, .ref 38, .int (nI i)] [] Z I J = g_at 142 18 [.ref 1001, .ref 0, .ref 38, .int (nI (i + 5))] [] Z I J := by
  obtain ⟨a0, a1, a2⟩ := ixs (j := i) (by omega)
  have w5 : nI i + 5 = nI (i + 5) := nI_ad i 5
  have l0 : i < n := by omega
  have m0 : ¬ xs i &&& 31 = 0 := n0 0 (by omega)
  have m1 : ¬ xs i &&& 31 = 1 := n0 1 (by omega)
  have m2 : ¬ xs i &&& 31 = 2 := n0 2 (by omega)
  have m3 : ¬ xs i &&& 31 = 3 := n0 3 (by omega)
  have m4 : ¬ xs i &&& 31 = 4 := n0 4 (by omega)
  have m5 : ¬ xs i &&& 31 = 5 := n0 5 (by omega)
  have m6 : ¬ xs i &&& 31 = 6 := n0 6 (by omega)
  have m7 : ¬ xs i &&& 31 = 7 := n0 7 (by omega)
  have m8 : ¬ xs i &&& 31 = 8 := n0 8 (by omega)
  have m9 : ¬ xs i &&& 31 = 9 := n0 9 (by omega)
  have m10 : ¬ xs i &&& 31 = 10 := n0 10 (by omega)
  have m11 : ¬ xs i &&& 31 = 11 := n0 11 (by omega)
  have m12 : ¬ xs i &&& 31 = 12 := n0 12 (by omega)
  have m13 : ¬ xs i &&& 31 = 13 := n0 13 (by omega)
  have m14 : ¬ xs i &&& 31 = 14 := n0 14 (by omega)
  have m15 : ¬ xs i &&& 31 = 15 := n0 15 (by omega)
  have m16 : ¬ xs i &&& 31 = 16 := n0 16 (by omega)
  have m17 : ¬ xs i &&& 31 = 17 := n0 17 (by omega)
  have m18 : ¬ xs i &&& 31 = 18 := n0 18 (by omega)
  have m19 : ¬ xs i &&& 31 = 19 := n0 19 (by omega)
  have m20 : ¬ xs i &&& 31 = 20 := n0 20 (by omega)
  have m21 : ¬ xs i &&& 31 = 21 := n0 21 (by omega)
  have m22 : ¬ xs i &&& 31 = 22 := n0 22 (by omega)
  have m23 : ¬ xs i &&& 31 = 23 := n0 23 (by omega)
  have m24 : ¬ xs i &&& 31 = 24 := n0 24 (by omega)
  simp (decide := true) only [gN1_int, gN1_ref, gN1_null, gN1_long, gTg8_8, gTg8_14, gTg9_9, gTg9_13, gTgA_8, gTgA_9, gTgA_10, gTgA_11, gTgA_13, gTgA_14, gB01_0, gB01_1, gB01_b, List.cons_append, List.nil_append, Option.toList_some, Option.toList_none, Option.bind_some, ↓reduceIte, eq_self, not_true_eq_false, not_false_eq_true, b2i_0, b2i_1, up_eq, up_ne, up_up, up_sort, up_self, fl_at, nI_s, q_142_26, q_142_27, q_142_28, q_142_29, q_142_31, q_142_32, q_142_893, q_142_896, zk_0, zk_38, zs_0_0, zr_0_0, zs_0_1, zr_0_1, zs_0_2, zr_0_2, zs_0_3, zr_0_3, zs_0_4, zr_0_4, zs_0_5, zr_0_5, zs_0_6, zr_0_6, zs_0_7, zr_0_7, zs_38_1, zr_38_1, zs_38_2, zr_38_2, zs_38_3, zr_38_3, zs_38_4, zr_38_4, zs_38_8, zr_38_8, zs_38_17, zr_38_17, zs_38_18, zr_38_18, zs_38_19, zr_38_19, zs_38_22, zr_38_22, zs_38_23, zr_38_23, zs_38_25, zr_38_25, zs_38_26, zr_38_26, zs_38_28, zr_38_28, zs_38_29, zr_38_29, hZ, hn, hxs, a0, a1, a2, w5, l0, m0, m1, m2, m3, m4, m5, m6, m7, m8, m9, m10, m11, m12, m13, m14, m15, m16, m17, m18, m19, m20, m21, m22, m23, m24]
theorem lw_step (hZ : St Z) {n i : Nat} {xs : Nat → Int32} (hn : gKd Z 1001 = (14, n)) (hi : i + 5 ≤ n) (hn2 : n ≤ 320) (hxs : I 1001 = xs) (hR : Rel I J) (hK : KO I) (hX : TX I) : ∃ I2 J2, g_at 142 26 [.ref 1001, .ref 0, .ref 38, .int (nI i)] [] Z I J = g_at 142 18 [.ref 1001, .ref 0, .ref 38, .int (nI (i + 5))] [] Z I2 J2 ∧ Rel I2 J2 ∧ ∀ b, 1000 ≤ b → I2 b = I b := by
  by_cases h0 : xs i &&& 31 = 0
  · exact lw_0 hZ hn hi hn2 hxs hR hK hX h0
  by_cases h1 : xs i &&& 31 = 1
  · exact lw_1 hZ hn hi hn2 hxs hR hK hX h1
  by_cases h2 : xs i &&& 31 = 2
  · exact lw_2 hZ hn hi hn2 hxs hR hK hX h2
  by_cases h3 : xs i &&& 31 = 3
  · exact lw_3 hZ hn hi hn2 hxs hR hK hX h3
  by_cases h4 : xs i &&& 31 = 4
  · exact lw_4 hZ hn hi hn2 hxs hR hK hX h4
  by_cases h5 : xs i &&& 31 = 5
  · exact lw_5 hZ hn hi hn2 hxs hR hK hX h5
  by_cases h6 : xs i &&& 31 = 6
  · exact lw_6 hZ hn hi hn2 hxs hR hK hX h6
  by_cases h7 : xs i &&& 31 = 7
  · exact lw_7 hZ hn hi hn2 hxs hR hK hX h7
  by_cases h8 : xs i &&& 31 = 8
  · exact lw_8 hZ hn hi hn2 hxs hR hK hX h8
  by_cases h9 : xs i &&& 31 = 9
  · exact lw_9 hZ hn hi hn2 hxs hR hK hX h9
  by_cases h10 : xs i &&& 31 = 10
  · exact lw_10 hZ hn hi hn2 hxs hR hK hX h10
  by_cases h11 : xs i &&& 31 = 11
  · exact lw_11 hZ hn hi hn2 hxs hR hK hX h11
  by_cases h12 : xs i &&& 31 = 12
  · exact lw_12 hZ hn hi hn2 hxs hR hK hX h12
  by_cases h13 : xs i &&& 31 = 13
  · exact lw_13 hZ hn hi hn2 hxs hR hK hX h13
  by_cases h14 : xs i &&& 31 = 14
  · exact lw_14 hZ hn hi hn2 hxs hR hK hX h14
  by_cases h15 : xs i &&& 31 = 15
  · exact lw_15 hZ hn hi hn2 hxs hR hK hX h15
  by_cases h16 : xs i &&& 31 = 16
  · exact lw_16 hZ hn hi hn2 hxs hR hK hX h16
  by_cases h17 : xs i &&& 31 = 17
  · exact lw_17 hZ hn hi hn2 hxs hR hK hX h17
  by_cases h18 : xs i &&& 31 = 18
  · exact lw_18 hZ hn hi hn2 hxs hR hK hX h18
  by_cases h19 : xs i &&& 31 = 19
  · exact lw_19 hZ hn hi hn2 hxs hR hK hX h19
  by_cases h20 : xs i &&& 31 = 20
  · exact lw_20 hZ hn hi hn2 hxs hR hK hX h20
  by_cases h21 : xs i &&& 31 = 21
  · exact lw_21 hZ hn hi hn2 hxs hR hK hX h21
  by_cases h22 : xs i &&& 31 = 22
  · exact lw_22 hZ hn hi hn2 hxs hR hK hX h22
  by_cases h23 : xs i &&& 31 = 23
  · exact lw_23 hZ hn hi hn2 hxs hR hK hX h23
  by_cases h24 : xs i &&& 31 = 24
  · exact lw_24 hZ hn hi hn2 hxs hR hK hX h24
  refine ⟨I, J, lw_rest hZ hn hi hn2 hxs hR hK hX (fun k hk => ?_), hR, fun _ _ => rfl⟩
  match k, hk with
  | 0, _ => exact h0
  | 1, _ => exact h1
  | 2, _ => exact h2
  | 3, _ => exact h3
  | 4, _ => exact h4
  | 5, _ => exact h5
  | 6, _ => exact h6
  | 7, _ => exact h7
  | 8, _ => exact h8
  | 9, _ => exact h9
  | 10, _ => exact h10
  | 11, _ => exact h11
  | 12, _ => exact h12
  | 13, _ => exact h13
  | 14, _ => exact h14
  | 15, _ => exact h15
  | 16, _ => exact h16
  | 17, _ => exact h17
  | 18, _ => exact h18
  | 19, _ => exact h19
  | 20, _ => exact h20
  | 21, _ => exact h21
  | 22, _ => exact h22
  | 23, _ => exact h23
  | 24, _ => exact h24
  | k + 25, z => exact absurd z (by omega)
theorem lw_loop (hZ : St Z) {n : Nat} {xs : Nat → Int32} (hn : gKd Z 1001 = (14, n)) (hn2 : n ≤ 320) (f : Nat) : ∀ (i : Nat) (I : gI) (J : gJ), n ≤ i + f → i ≤ n + 5 → I 1001 = xs → Rel I J → KO I → TX I → ∃ I' J', g_at 142 18 [.ref 1001, .ref 0, .ref 38, .int (nI i)] [] Z I J = some (some (.int 1), Z, I', J') := by
  have out : ∀ (i : Nat) (I : gI) (J : gJ), n < i + 5 → i ≤ n + 5 → g_at 142 18 [.ref 1001, .ref 0, .ref 38, .int (nI i)] [] Z I J = some (some (.int 1), Z, I, J) := by
    intro i I J h1 h2
    have h3 : Int32.ofNat n - 5 < nI i := by rw [lw_cmp hn2 (by omega)]; exact h1
    rw [q_142_18]
    simp (decide := true) only [gN1_int, gN1_ref, gN1_null, gN1_long, gTg8_8, gTg8_14, gTg9_9, gTg9_13, gTgA_8, gTgA_9, gTgA_10, gTgA_11, gTgA_13, gTgA_14, gB01_0, gB01_1, gB01_b, List.cons_append, List.nil_append, Option.toList_some, Option.toList_none, Option.bind_some, ↓reduceIte, eq_self, not_true_eq_false, not_false_eq_true, b2i_0, b2i_1, up_eq, up_ne, up_up, up_sort, up_self, fl_at, nI_s, q_142_19, q_142_20, q_142_21, q_142_22, q_142_23, q_142_899, q_142_900, hn, h3]
  induction f with
  | zero =>
    intro i I J h1 h2 _ _ _ _
    exact ⟨I, J, out i I J (by omega) h2⟩
  | succ f ih =>
    intro i I J h1 h2 hxs hR hK hX
    by_cases q : n < i + 5
    · exact ⟨I, J, out i I J q h2⟩
    · have h3 : ¬ Int32.ofNat n - 5 < nI i := by rw [lw_cmp hn2 (by omega)]; exact q
      obtain ⟨I2, J2, e, hr, h4⟩ := lw_step hZ hn (show i + 5 ≤ n by omega) hn2 hxs hR hK hX
      obtain ⟨I3, J3, e3⟩ := ih (i + 5) I2 J2 (by omega) (by omega) (by rw [h4 1001 (by omega)]; exact hxs) hr (by unfold KO at hK ⊢; rw [h4 1000 (by omega)]; exact hK) (fun k => by rw [h4 (1030 + k) (by omega)]; exact hX k)
      refine ⟨I3, J3, ?_⟩
      rw [q_142_18]
      simp (decide := true) only [gN1_int, gN1_ref, gN1_null, gN1_long, gTg8_8, gTg8_14, gTg9_9, gTg9_13, gTgA_8, gTgA_9, gTgA_10, gTgA_11, gTgA_13, gTgA_14, gB01_0, gB01_1, gB01_b, List.cons_append, List.nil_append, Option.toList_some, Option.toList_none, Option.bind_some, ↓reduceIte, eq_self, not_true_eq_false, not_false_eq_true, b2i_0, b2i_1, up_eq, up_ne, up_up, up_sort, up_self, fl_at, nI_s, q_142_19, q_142_20, q_142_21, q_142_22, q_142_23, hn, h3]
      rw [e]
      exact e3
end
