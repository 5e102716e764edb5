/-! the reference's TIMES -/
section
variable {Z : gZ} {I : gI} {J : gJ} {N : Nat} {w : Int32}
theorem cq_app {l : Nat → Int32} {x j M M' : Nat} (h : M ≤ M') (hx : x ≤ 10) (hj : j ≤ 10) : cq (va_up l M' (nI j)) x M (M' + 1 - M) = cq l x M (M' - M) + (if x = j then 1 else 0) := by
  rw [show M' + 1 - M = (M' - M) + 1 by omega, cq, show M + (M' - M) = M' by omega, up_eq]
  congr 1
  · exact cq_congr _ (fun y hy => up_ne (by omega))
  · by_cases e : x = j
    · rw [if_pos e, if_pos (by rw [e])]
    · rw [if_neg e, if_neg (fun z => e ((nI_eq (by omega) (by omega)).mp z).symm)]
theorem X7_tmI (hZ : St Z) (hM : HM I N w (-1)) {q M : Nat} (hq : q < N) (hM60 : M ≤ 60) (st : Nat → Nat) {l : Nat → Int32} (hlv : ∀ x, x < M → ∃ y, y < N ∧ l x = nI y) {xc xg xm xk xi : Int32} : ∃ (l' : Nat → Int32) (M' : Nat), g_at 119 124 [.ref 38, .int xc, .int xg, .int xm, .int (bitsOf (odv (I 39) (I 40) (I 41) w N (st)) 10), .int (xk), .int (nI M), .int (xi), .int (nI q), .int (0)] [] Z (va_up I 52 l) J = g_at 119 207 [.ref 38, .int xc, .int xg, .int xm, .int (bitsOf (odv (I 39) (I 40) (I 41) w N (upS st q)) 10), .int (xk), .int (nI M'), .int (xi), .int (nI q), .int (nI N)] [] Z (va_up I 52 l') J ∧ M ≤ M' ∧ M' ≤ M + N ∧ (∀ x, x < M → l' x = l x) ∧ (∀ x, x < M' → ∃ y, y < N ∧ l' x = nI y) ∧ (∀ x, x < N → cq l' x M (M' - M) = if apS (I 39) (I 40) (I 41) w (st) (q) (x) = true then 1 else 0) := by
  obtain ⟨m1, m2, m3, m4, m5⟩ := hM
  subst m4
  obtain ⟨⟨l', M'⟩, ⟨i1, i2, i3, i4, i5⟩, e⟩ := loop_ink (fun j (b : (Nat → Int32) × Nat) => g_at 119 124 [.ref 38, .int xc, .int xg, .int xm, .int (bitsOf (fun x => if x < j then odv (I 39) (I 40) (I 41) (I 38 5) N (upS st q) x else odv (I 39) (I 40) (I 41) (I 38 5) N st x) 10), .int (xk), .int (nI b.2), .int (xi), .int (nI q), .int (nI j)] [] Z (va_up I 52 b.1) J) (fun j b => M ≤ b.2 ∧ b.2 ≤ M + j ∧ (∀ x, x < M → b.1 x = l x) ∧ (∀ x, x < b.2 → ∃ y, y < N ∧ b.1 x = nI y) ∧ (∀ x, x < N → cq b.1 x M (b.2 - M) = if x < j ∧ apS (I 39) (I 40) (I 41) (I 38 5) st q x = true then 1 else 0)) (n := N) (fun j hj b hb => by
    obtain ⟨l1, M1⟩ := b
    obtain ⟨i1, i2, i3, i4, i5⟩ := hb
    try dsimp only at i1 i2 i3 i4 i5 ⊢
    obtain ⟨f0, f1, f2⟩ := ixs (j := j) (by omega)
    obtain ⟨g0, g1, g2⟩ := ixs (j := M1) (by omega)
    have f3 : ¬ nI N ≤ nI j := nI_ge hj (by omega)
    have f4 : j < 10 := by omega
    have g4 : M1 < 100 := by omega
    have hos := odv_step (s := I 40) (k := I 41) (w := I 38 5) m3 m2 (st := st) f4 (show q < 10 by omega)
    rw [decide_eq_true hj, Bool.true_and] at hos
    have hmid : ∀ x, x ≠ j → (if x < j + 1 then odv (I 39) (I 40) (I 41) (I 38 5) N (upS st q) x else odv (I 39) (I 40) (I 41) (I 38 5) N st x) = (if x < j then odv (I 39) (I 40) (I 41) (I 38 5) N (upS st q) x else odv (I 39) (I 40) (I 41) (I 38 5) N st x) := fun x hx => by
      by_cases z : x < j
      · rw [if_pos z, if_pos (by omega)]
      · rw [if_neg z, if_neg (by omega)]
    have hsame : odv (I 39) (I 40) (I 41) (I 38 5) N (upS st q) j = odv (I 39) (I 40) (I 41) (I 38 5) N st j → (fun x => if x < j + 1 then odv (I 39) (I 40) (I 41) (I 38 5) N (upS st q) x else odv (I 39) (I 40) (I 41) (I 38 5) N st x) = (fun x => if x < j then odv (I 39) (I 40) (I 41) (I 38 5) N (upS st q) x else odv (I 39) (I 40) (I 41) (I 38 5) N st x) := fun z => by
      funext x
      by_cases e : x = j
      · subst e
        rw [if_pos (by omega), if_neg (by omega), z]
      · exact hmid x e
    have hkeep : apS (I 39) (I 40) (I 41) (I 38 5) st q j = false → (∀ x, x < N → cq l1 x M (M1 - M) = if x < j + 1 ∧ apS (I 39) (I 40) (I 41) (I 38 5) st q x = true then 1 else 0) := fun z x hx => by
      rw [i5 x hx]
      by_cases e : x = j
      · subst e
        rw [if_neg (by omega), if_neg (fun y => by rw [z] at y; exact absurd y.2 (by decide))]
      · by_cases y : x < j
        · simp only [y, show x < j + 1 by omega, true_and]
        · simp only [y, show ¬ x < j + 1 by omega, false_and]
    have hadd : apS (I 39) (I 40) (I 41) (I 38 5) st q j = true → (∀ x, x < N → cq (va_up l1 M1 (nI j)) x M (M1 + 1 - M) = if x < j + 1 ∧ apS (I 39) (I 40) (I 41) (I 38 5) st q x = true then 1 else 0) := fun z x hx => by
      rw [cq_app i1 (by omega) (by omega), i5 x hx]
      by_cases e : x = j
      · subst e
        rw [if_neg (by omega), if_pos rfl, if_pos ⟨by omega, z⟩]
      · rw [if_neg e, Nat.add_zero]
        by_cases y : x < j
        · simp only [y, show x < j + 1 by omega, true_and]
        · simp only [y, show ¬ x < j + 1 by omega, false_and]
    have hval : ∀ x, x < M1 + 1 → ∃ y, y < N ∧ va_up l1 M1 (nI j) x = nI y := fun x hx => by
      by_cases e : x = M1
      · exact ⟨j, hj, by rw [e, up_eq]⟩
      · rw [up_ne e]; exact i4 x (by omega)
    have hold : ∀ x, x < M → va_up l1 M1 (nI j) x = l x := fun x hx => by rw [up_ne (by omega)]; exact i3 x hx
    rw [q_119_124]
    by_cases h1 : I 39 j = nI q
    · cases h2 : cH (I 39) (I 40) (I 41) (I 38 5) j
      · have hh : hearsQ (I 39) (I 40) (I 41) (I 38 5) q j = false := by unfold hearsQ; rw [h2, Bool.and_false]
        have ha : apS (I 39) (I 40) (I 41) (I 38 5) st q j = false := by unfold apS; rw [hh, Bool.false_and]
        rw [hh, Bool.false_and, if_neg (by decide)] at hos
        refine ⟨(l1, M1), ⟨i1, by omega, i3, i4, hkeep ha⟩, ?_⟩
        rw [hsame hos]
        simp (decide := true) only [gN1_int, gN1_ref, gN1_null, gN1_long, gTg8_8, gTg8_14, gTg9_9, gTg9_13, gTgA_8, gTgA_9, gTgA_10, gTgA_11, gTgA_13, gTgA_14, gB01_0, gB01_1, gB01_b, List.cons_append, List.nil_append, Option.toList_some, Option.toList_none, Option.bind_some, ↓reduceIte, eq_self, not_true_eq_false, not_false_eq_true, b2i_0, b2i_1, up_eq, up_ne, up_up, up_sort, up_self, fl_at, nI_s, q_119_126, q_119_127, q_119_130, q_119_133, q_119_134, q_119_137, q_119_139, q_119_140, q_119_142, q_119_145, q_119_146, q_119_148, q_119_151, q_119_154, q_119_155, q_119_158, q_119_160, q_119_161, q_119_162, q_119_165, q_119_167, q_119_168, q_119_170, q_119_171, q_119_172, q_119_175, q_119_177, q_119_179, q_119_181, q_119_183, q_119_186, q_119_189, q_119_190, q_119_193, q_119_195, q_119_197, q_119_198, q_119_201, q_119_204, zk_38, zk_39, zk_40, zk_41, zk_52, zs_38_1, zr_38_1, zs_38_2, zr_38_2, zs_38_3, zr_38_3, zs_38_4, zr_38_4, zs_38_8, zr_38_8, zs_38_17, zr_38_17, zs_38_18, zr_38_18, zs_38_19, zr_38_19, zs_38_22, zr_38_22, zs_38_23, zr_38_23, zs_38_25, zr_38_25, zs_38_26, zr_38_26, zs_38_28, zr_38_28, zs_38_29, zr_38_29, hZ, m1, f0, f1, f2, f3, f4, h1, h2, X7_canHear hZ, ne_eq]
      · have hh : hearsQ (I 39) (I 40) (I 41) (I 38 5) q j = true := by unfold hearsQ; rw [h2, decide_eq_true h1]; rfl
        by_cases h3 : I 41 j = 3
        · rw [hh, decide_eq_true h3, if_pos (by decide)] at hos
          have hst : odv (I 39) (I 40) (I 41) (I 38 5) N st j = decide (st q % 2 = 1) := by
            have hg := hq_gd (s := I 40) (k := I 41) (w := I 38 5) m3 m2 (x := j) (q := q) f4 (by omega)
            rw [hh] at hg
            have hg2 := hg.symm
            rw [Bool.and_eq_true, decide_eq_true_eq] at hg2
            unfold odv
            rw [decide_eq_true hj, hg2.1, decide_eq_true h3, hg2.2]
            simp
          have hfl := bits_flip (p := fun x => if x < j then odv (I 39) (I 40) (I 41) (I 38 5) N (upS st q) x else odv (I 39) (I 40) (I 41) (I 38 5) N st x) (p2 := fun x => if x < j + 1 then odv (I 39) (I 40) (I 41) (I 38 5) N (upS st q) x else odv (I 39) (I 40) (I 41) (I 38 5) N st x) (n := 10) (k := j) (by omega) f4 (by simp only [show j < j + 1 by omega, if_true, show ¬ j < j by omega, if_false]; exact hos) hmid
          have hbit := bits_bit (p := fun x => if x < j + 1 then odv (I 39) (I 40) (I 41) (I 38 5) N (upS st q) x else odv (I 39) (I 40) (I 41) (I 38 5) N st x) (n := 10) (g := j) (by omega) (by omega)
          simp only [show j < j + 1 by omega, if_true, decide_eq_true f4, Bool.true_and] at hbit
          rw [hos, hst] at hbit
          by_cases h4 : st q % 2 = 1
          · have ha : apS (I 39) (I 40) (I 41) (I 38 5) st q j = true := by unfold apS; rw [hh, decide_eq_true h4, Bool.or_true]; rfl
            rw [decide_eq_true h4] at hbit
            refine ⟨(va_up l1 M1 (nI j), M1 + 1), ⟨by show M ≤ M1 + 1; omega, by show M1 + 1 ≤ M + (j + 1); omega, hold, hval, hadd ha⟩, ?_⟩
            simp (decide := true) only [gN1_int, gN1_ref, gN1_null, gN1_long, gTg8_8, gTg8_14, gTg9_9, gTg9_13, gTgA_8, gTgA_9, gTgA_10, gTgA_11, gTgA_13, gTgA_14, gB01_0, gB01_1, gB01_b, List.cons_append, List.nil_append, Option.toList_some, Option.toList_none, Option.bind_some, ↓reduceIte, eq_self, not_true_eq_false, not_false_eq_true, b2i_0, b2i_1, up_eq, up_ne, up_up, up_sort, up_self, fl_at, nI_s, q_119_126, q_119_127, q_119_130, q_119_133, q_119_134, q_119_137, q_119_139, q_119_140, q_119_142, q_119_145, q_119_146, q_119_148, q_119_151, q_119_154, q_119_155, q_119_158, q_119_160, q_119_161, q_119_162, q_119_165, q_119_167, q_119_168, q_119_170, q_119_171, q_119_172, q_119_175, q_119_177, q_119_179, q_119_181, q_119_183, q_119_186, q_119_189, q_119_190, q_119_193, q_119_195, q_119_197, q_119_198, q_119_201, q_119_204, zk_38, zk_39, zk_40, zk_41, zk_52, zs_38_1, zr_38_1, zs_38_2, zr_38_2, zs_38_3, zr_38_3, zs_38_4, zr_38_4, zs_38_8, zr_38_8, zs_38_17, zr_38_17, zs_38_18, zr_38_18, zs_38_19, zr_38_19, zs_38_22, zr_38_22, zs_38_23, zr_38_23, zs_38_25, zr_38_25, zs_38_26, zr_38_26, zs_38_28, zr_38_28, zs_38_29, zr_38_29, hZ, m1, f0, f1, f2, f3, f4, g0, g1, g2, g4, h1, h2, h3, X7_canHear hZ, X7_has, hfl, hbit, ne_eq, Bool.not_true, Bool.true_eq_false, b2i, Bool.false_eq_true, decide_false]
          · have ha : apS (I 39) (I 40) (I 41) (I 38 5) st q j = false := by unfold apS; rw [hh, decide_eq_true h3, decide_eq_false h4]; rfl
            rw [decide_eq_false h4] at hbit
            refine ⟨(l1, M1), ⟨i1, by omega, i3, i4, hkeep ha⟩, ?_⟩
            simp (decide := true) only [gN1_int, gN1_ref, gN1_null, gN1_long, gTg8_8, gTg8_14, gTg9_9, gTg9_13, gTgA_8, gTgA_9, gTgA_10, gTgA_11, gTgA_13, gTgA_14, gB01_0, gB01_1, gB01_b, List.cons_append, List.nil_append, Option.toList_some, Option.toList_none, Option.bind_some, ↓reduceIte, eq_self, not_true_eq_false, not_false_eq_true, b2i_0, b2i_1, up_eq, up_ne, up_up, up_sort, up_self, fl_at, nI_s, q_119_126, q_119_127, q_119_130, q_119_133, q_119_134, q_119_137, q_119_139, q_119_140, q_119_142, q_119_145, q_119_146, q_119_148, q_119_151, q_119_154, q_119_155, q_119_158, q_119_160, q_119_161, q_119_162, q_119_165, q_119_167, q_119_168, q_119_170, q_119_171, q_119_172, q_119_175, q_119_177, q_119_179, q_119_181, q_119_183, q_119_186, q_119_189, q_119_190, q_119_193, q_119_195, q_119_197, q_119_198, q_119_201, q_119_204, zk_38, zk_39, zk_40, zk_41, zk_52, zs_38_1, zr_38_1, zs_38_2, zr_38_2, zs_38_3, zr_38_3, zs_38_4, zr_38_4, zs_38_8, zr_38_8, zs_38_17, zr_38_17, zs_38_18, zr_38_18, zs_38_19, zr_38_19, zs_38_22, zr_38_22, zs_38_23, zr_38_23, zs_38_25, zr_38_25, zs_38_26, zr_38_26, zs_38_28, zr_38_28, zs_38_29, zr_38_29, hZ, m1, f0, f1, f2, f3, f4, g0, g1, g2, g4, h1, h2, h3, X7_canHear hZ, X7_has, hfl, hbit, ne_eq, Bool.not_false, Bool.true_eq_false, b2i, decide_true]
        · rw [decide_eq_false h3, Bool.and_false, if_neg (by decide)] at hos
          have hst : odv (I 39) (I 40) (I 41) (I 38 5) N st j = false := by
            unfold odv
            rw [decide_eq_false h3]
            simp
          have ha : apS (I 39) (I 40) (I 41) (I 38 5) st q j = true := by unfold apS; rw [hh, decide_eq_false h3]; rfl
          have hbit := bits_bit (p := fun x => if x < j then odv (I 39) (I 40) (I 41) (I 38 5) N (upS st q) x else odv (I 39) (I 40) (I 41) (I 38 5) N st x) (n := 10) (g := j) (by omega) (by omega)
          simp only [show ¬ j < j by omega, if_false, decide_eq_true f4, Bool.true_and] at hbit
          rw [hst] at hbit
          refine ⟨(va_up l1 M1 (nI j), M1 + 1), ⟨by show M ≤ M1 + 1; omega, by show M1 + 1 ≤ M + (j + 1); omega, hold, hval, hadd ha⟩, ?_⟩
          rw [hsame hos]
          simp (decide := true) only [gN1_int, gN1_ref, gN1_null, gN1_long, gTg8_8, gTg8_14, gTg9_9, gTg9_13, gTgA_8, gTgA_9, gTgA_10, gTgA_11, gTgA_13, gTgA_14, gB01_0, gB01_1, gB01_b, List.cons_append, List.nil_append, Option.toList_some, Option.toList_none, Option.bind_some, ↓reduceIte, eq_self, not_true_eq_false, not_false_eq_true, b2i_0, b2i_1, up_eq, up_ne, up_up, up_sort, up_self, fl_at, nI_s, q_119_126, q_119_127, q_119_130, q_119_133, q_119_134, q_119_137, q_119_139, q_119_140, q_119_142, q_119_145, q_119_146, q_119_148, q_119_151, q_119_154, q_119_155, q_119_158, q_119_160, q_119_161, q_119_162, q_119_165, q_119_167, q_119_168, q_119_170, q_119_171, q_119_172, q_119_175, q_119_177, q_119_179, q_119_181, q_119_183, q_119_186, q_119_189, q_119_190, q_119_193, q_119_195, q_119_197, q_119_198, q_119_201, q_119_204, zk_38, zk_39, zk_40, zk_41, zk_52, zs_38_1, zr_38_1, zs_38_2, zr_38_2, zs_38_3, zr_38_3, zs_38_4, zr_38_4, zs_38_8, zr_38_8, zs_38_17, zr_38_17, zs_38_18, zr_38_18, zs_38_19, zr_38_19, zs_38_22, zr_38_22, zs_38_23, zr_38_23, zs_38_25, zr_38_25, zs_38_26, zr_38_26, zs_38_28, zr_38_28, zs_38_29, zr_38_29, hZ, m1, f0, f1, f2, f3, f4, g0, g1, g2, g4, h1, h2, h3, X7_canHear hZ, X7_has, hbit, ne_eq, Bool.true_eq_false, b2i, Bool.false_eq_true, decide_false]
    · have hh : hearsQ (I 39) (I 40) (I 41) (I 38 5) q j = false := by unfold hearsQ; rw [decide_eq_false h1, Bool.false_and]
      have ha : apS (I 39) (I 40) (I 41) (I 38 5) st q j = false := by unfold apS; rw [hh, Bool.false_and]
      rw [hh, Bool.false_and, if_neg (by decide)] at hos
      refine ⟨(l1, M1), ⟨i1, by omega, i3, i4, hkeep ha⟩, ?_⟩
      rw [hsame hos]
      simp (decide := true) only [gN1_int, gN1_ref, gN1_null, gN1_long, gTg8_8, gTg8_14, gTg9_9, gTg9_13, gTgA_8, gTgA_9, gTgA_10, gTgA_11, gTgA_13, gTgA_14, gB01_0, gB01_1, gB01_b, List.cons_append, List.nil_append, Option.toList_some, Option.toList_none, Option.bind_some, ↓reduceIte, eq_self, not_true_eq_false, not_false_eq_true, b2i_0, b2i_1, up_eq, up_ne, up_up, up_sort, up_self, fl_at, nI_s, q_119_126, q_119_127, q_119_130, q_119_133, q_119_134, q_119_137, q_119_139, q_119_140, q_119_142, q_119_145, q_119_146, q_119_148, q_119_151, q_119_154, q_119_155, q_119_158, q_119_160, q_119_161, q_119_162, q_119_165, q_119_167, q_119_168, q_119_170, q_119_171, q_119_172, q_119_175, q_119_177, q_119_179, q_119_181, q_119_183, q_119_186, q_119_189, q_119_190, q_119_193, q_119_195, q_119_197, q_119_198, q_119_201, q_119_204, zk_38, zk_39, zk_40, zk_41, zk_52, zs_38_1, zr_38_1, zs_38_2, zr_38_2, zs_38_3, zr_38_3, zs_38_4, zr_38_4, zs_38_8, zr_38_8, zs_38_17, zr_38_17, zs_38_18, zr_38_18, zs_38_19, zr_38_19, zs_38_22, zr_38_22, zs_38_23, zr_38_23, zs_38_25, zr_38_25, zs_38_26, zr_38_26, zs_38_28, zr_38_28, zs_38_29, zr_38_29, hZ, m1, f0, f1, f2, f3, f4, h1]) (l, M) ⟨Nat.le_refl _, Nat.le_refl _, fun _ _ => rfl, hlv, fun x hx => by rw [Nat.sub_self, cq, if_neg (fun z => absurd z.1 (by omega))]⟩
  refine ⟨l', M', ?_, i1, i2, i3, i4, fun x hx => ?_⟩
  · have e0 : (fun x => if x < 0 then odv (I 39) (I 40) (I 41) (I 38 5) N (upS st q) x else odv (I 39) (I 40) (I 41) (I 38 5) N st x) = odv (I 39) (I 40) (I 41) (I 38 5) N st := by
      funext x
      rw [if_neg (by omega)]
    have e1 : bitsOf (fun x => if x < N then odv (I 39) (I 40) (I 41) (I 38 5) N (upS st q) x else odv (I 39) (I 40) (I 41) (I 38 5) N st x) 10 = bitsOf (odv (I 39) (I 40) (I 41) (I 38 5) N (upS st q)) 10 := by
      refine bitsOf_congr (fun x hx => ?_)
      by_cases z : x < N
      · rw [if_pos z]
      · rw [if_neg z]
        unfold odv
        rw [decide_eq_false z, Bool.false_and, Bool.false_and]
    simp only [e0, e1, nI_0] at e
    rw [e, q_119_124]
    simp (decide := true) only [gN1_int, gN1_ref, gN1_null, gN1_long, gTg8_8, gTg8_14, gTg9_9, gTg9_13, gTgA_8, gTgA_9, gTgA_10, gTgA_11, gTgA_13, gTgA_14, gB01_0, gB01_1, gB01_b, List.cons_append, List.nil_append, Option.toList_some, Option.toList_none, Option.bind_some, ↓reduceIte, eq_self, not_true_eq_false, not_false_eq_true, b2i_0, b2i_1, up_eq, up_ne, up_up, up_sort, up_self, fl_at, nI_s, q_119_126, q_119_127, q_119_130, q_119_133, q_119_134, q_119_137, q_119_139, q_119_140, q_119_142, q_119_145, q_119_146, q_119_148, q_119_151, q_119_154, q_119_155, q_119_158, q_119_160, q_119_161, q_119_162, q_119_165, q_119_167, q_119_168, q_119_170, q_119_171, q_119_172, q_119_175, q_119_177, q_119_179, q_119_181, q_119_183, q_119_186, q_119_189, q_119_190, q_119_193, q_119_195, q_119_197, q_119_198, q_119_201, q_119_204, zk_38, zs_38_1, zr_38_1, zs_38_2, zr_38_2, zs_38_3, zr_38_3, zs_38_4, zr_38_4, zs_38_8, zr_38_8, zs_38_17, zr_38_17, zs_38_18, zr_38_18, zs_38_19, zr_38_19, zs_38_22, zr_38_22, zs_38_23, zr_38_23, zs_38_25, zr_38_25, zs_38_26, zr_38_26, zs_38_28, zr_38_28, zs_38_29, zr_38_29, hZ, m1, Int32.le_refl]
  · have := i5 x hx
    simp only [hx, true_and] at this
    exact this
end
