/-! the reference's TIMES: the row of those that are to strike; hands -/
section
variable {Z : gZ} {I : gI} {J : gJ} {N : Nat} {w : Int32}
theorem hm_up (h : HM I N w (-1)) {a : Nat} (ha : a ≠ 38) (hb : a ≠ 39) {f : Nat → Int32} : HM (va_up I a f) N w (-1) := by
  unfold HM at h ⊢
  rw [up_ne (Ne.symm ha), up_ne (Ne.symm hb)]
  exact h
theorem X7_tmQ (hZ : St Z) (hM : HM I N w (-1)) {c m : Nat} {F : Nat → Nat} (hF : ∀ j, j < N → eqv (I 39) (I 40) (I 41) w c (m) (F) (j) ≤ F j) {xc xg xm xk : Int32} (f : Nat) : ∀ (i M : Nat) (st : Nat → Nat) (l fS : Nat → Int32) (u8 u9 : Value), i ≤ M → 20 - i ≤ f → (∀ x, x < M → ∃ y, y < N ∧ l x = nI y) → (∀ j, j < N → fS j = nI (st j)) → (∀ j, j < N → st j + cq l j i (M - i) = eqv (I 39) (I 40) (I 41) w c (m) (st) (j)) → (∀ j, j < N → st j ≤ F j) → sumN F N + i ≤ sumN st N + 20 → ∃ (st' : Nat → Nat) (l' fS' : Nat → Int32) (v6 v7 v8 v9 : Value), g_at 119 94 [.ref 38, .int xc, .int xg, .int xm, .int (bitsOf (odv (I 39) (I 40) (I 41) w N (st)) 10), .int (xk), .int (nI M), .int (nI i), u8, u9] [] Z (va_up (va_up I 51 fS) 52 l) J = g_at 119 213 [.ref 38, .int xc, .int xg, .int xm, .int (bitsOf (odv (I 39) (I 40) (I 41) w N (st')) 10), .int (xk), v6, v7, v8, v9] [] Z (va_up (va_up I 51 fS') 52 l') J ∧ (∀ j, j < N → fS' j = nI (st' j)) ∧ (∀ j, j < N → st' j = eqv (I 39) (I 40) (I 41) w c (m) (st') (j)) ∧ (∀ j, j < N → st' j ≤ F j) := by
  have hM0 := hM
  obtain ⟨m1, m2, m3, m4, m5⟩ := hM
  have hbd : ∀ (i M : Nat) (st : Nat → Nat) (l : Nat → Int32), i ≤ M → (∀ x, x < M → ∃ y, y < N ∧ l x = nI y) → (∀ j, j < N → st j + cq l j i (M - i) = eqv (I 39) (I 40) (I 41) w c (m) (st) (j)) → (∀ j, j < N → st j ≤ F j) → sumN F N + i ≤ sumN st N + 20 → M ≤ 20 := by
    intro i M st l h1 h2 h3 h4 h5
    have a1 := cq_sum (l := l) (a := i) m2 (M - i) (fun x hx => h2 x (by omega))
    have a2 : sumN st N + sumN (fun j => cq l j i (M - i)) N ≤ sumN F N := by
      rw [← sumN_add]
      refine sumN_le N (fun j hj => ?_)
      rw [h3 j hj]
      exact Nat.le_trans (eqv_mono m3 m2 (by omega) h4) (hF j hj)
    omega
  induction f with
  | zero =>
    intro i M st l fS u8 u9 h1 h2 h3 h4 h5 h6 h7
    have hb := hbd i M st l h1 h3 h5 h6 h7
    have e : M = i := by omega
    have f3 : nI M ≤ nI i := by rw [e]; exact Int32.le_refl _
    refine ⟨st, l, fS, .int (nI M), .int (nI i), u8, u9, ?_, h4, fun j hj => ?_, h6⟩
    · rw [q_119_94]
      simp (decide := true) only [gN1_int, gN1_ref, gN1_null, gN1_long, gTg8_8, gTg8_14, gTg9_9, gTg9_13, gTgA_8, gTgA_9, gTgA_10, gTgA_11, gTgA_13, gTgA_14, gB01_0, gB01_1, gB01_b, List.cons_append, List.nil_append, Option.toList_some, Option.toList_none, Option.bind_some, ↓reduceIte, eq_self, not_true_eq_false, not_false_eq_true, b2i_0, b2i_1, up_eq, up_ne, up_up, up_sort, up_self, fl_at, nI_s, q_119_96, q_119_98, f3]
    · have := h5 j hj
      rw [e, Nat.sub_self, cq, Nat.add_zero] at this
      exact this
  | succ f ih =>
    intro i M st l fS u8 u9 h1 h2 h3 h4 h5 h6 h7
    have hb := hbd i M st l h1 h3 h5 h6 h7
    by_cases q0 : i = M
    · have f3 : nI M ≤ nI i := by rw [q0]; exact Int32.le_refl _
      refine ⟨st, l, fS, .int (nI M), .int (nI i), u8, u9, ?_, h4, fun j hj => ?_, h6⟩
      · rw [q_119_94]
        simp (decide := true) only [gN1_int, gN1_ref, gN1_null, gN1_long, gTg8_8, gTg8_14, gTg9_9, gTg9_13, gTgA_8, gTgA_9, gTgA_10, gTgA_11, gTgA_13, gTgA_14, gB01_0, gB01_1, gB01_b, List.cons_append, List.nil_append, Option.toList_some, Option.toList_none, Option.bind_some, ↓reduceIte, eq_self, not_true_eq_false, not_false_eq_true, b2i_0, b2i_1, up_eq, up_ne, up_up, up_sort, up_self, fl_at, nI_s, q_119_96, q_119_98, f3]
      · have := h5 j hj
        rw [q0, Nat.sub_self, cq, Nat.add_zero] at this
        exact this
    · obtain ⟨q, hq, eq⟩ := h3 i (by omega)
      obtain ⟨f0, f1, f2⟩ := ixs (j := i) (by omega)
      obtain ⟨g0, g1, g2⟩ := ixs (j := q) (by omega)
      have f3 : ¬ nI M ≤ nI i := nI_ge (by omega) (by omega)
      have f4 : i < 100 := by omega
      have g4 : q < 10 := by omega
      have g5 : fS q = nI (st q) := h4 q hq
      have hI := X7_tmI (I := va_up I 51 (va_up fS q (nI (st q + 1)))) (J := J) hZ (hm_up hM0 (by decide) (by decide)) hq (show M ≤ 60 by omega) st h3 (xc := xc) (xg := xg) (xm := xm) (xk := xk) (xi := nI i)
      simp (decide := true) only [up_ne] at hI
      obtain ⟨l', M', e1, i1, i2, i3, i4, i5⟩ := hI
      have cs : ∀ x, x < N → cq l' x (i + 1) (M' - (i + 1)) + (if l i = nI x then 1 else 0) = cq l x i (M - i) + (if apS (I 39) (I 40) (I 41) w st q x = true then 1 else 0) := by
        intro x hx
        have a1 : M' - (i + 1) = (M - (i + 1)) + (M' - M) := by omega
        rw [a1, cq_split, show i + 1 + (M - (i + 1)) = M by omega, i5 x hx, show M - i = (M - (i + 1)) + 1 by omega, cq_head, cq_congr (l := l') (l' := l) _ (fun y hy => i3 y (by omega))]
        omega
      have hx : ∀ x, x < N → (if l i = nI x then 1 else 0) = (if x = q then 1 else 0) := fun x hx => by
        rw [eq]
        by_cases z : x = q
        · rw [if_pos z, if_pos (by rw [z])]
        · rw [if_neg z, if_neg (fun y => z ((nI_eq (by omega) (by omega)).mp y).symm)]
      obtain ⟨st', l2, fS', v6, v7, v8, v9, s1, s2, s3, s4⟩ := ih (i + 1) M' (upS st q) l' (va_up fS q (nI (st q + 1))) (.int (nI q)) (.int (nI N)) (by omega) (by omega) i4 (fun j hj => by
        unfold upS
        by_cases z : j = q
        · rw [z, up_eq, if_pos rfl]
        · rw [up_ne z, if_neg z]
          exact h4 j hj) (fun j hj => by
        rw [eqv_step m3 m2 (show j < 10 by omega) g4, ← h5 j hj]
        have a1 := cs j hj
        rw [hx j hj] at a1
        unfold upS
        by_cases z : j = q
        · rw [if_pos z] at a1 ⊢
          omega
        · rw [if_neg z] at a1 ⊢
          omega) (fun j hj => by
        unfold upS
        by_cases z : j = q
        · rw [if_pos z]
          have a1 := h5 j hj
          have a2 := Nat.le_trans (eqv_mono (s := I 40) (k := I 41) (w := w) (c := c) (m := m) m3 m2 (show j < 10 by omega) h6) (hF j hj)
          rw [← a1, show M - i = (M - (i + 1)) + 1 by omega, cq_head, hx j hj, if_pos z] at a2
          omega
        · rw [if_neg z]
          exact h6 j hj) (by
        have a1 : sumN (upS st q) N = sumN st N + 1 := by
          have : sumN (upS st q) N = sumN (fun j => st j + (if j = q then 1 else 0)) N := sumN_congr N (fun j _ => by
            unfold upS
            by_cases z : j = q
            · rw [if_pos z, if_pos z]
            · rw [if_neg z, if_neg z]
              rfl)
          rw [this, sumN_add, sumN_one, if_pos hq]
        omega)
      refine ⟨st', l2, fS', v6, v7, v8, v9, ?_, s2, s3, s4⟩
      rw [← s1, q_119_94]
      have e1' := e1
      rw [show (0 : Int32) = nI 0 from rfl] at e1'
      simp (decide := true) only [gN1_int, gN1_ref, gN1_null, gN1_long, gTg8_8, gTg8_14, gTg9_9, gTg9_13, gTgA_8, gTgA_9, gTgA_10, gTgA_11, gTgA_13, gTgA_14, gB01_0, gB01_1, gB01_b, List.cons_append, List.nil_append, Option.toList_some, Option.toList_none, Option.bind_some, ↓reduceIte, eq_self, not_true_eq_false, not_false_eq_true, b2i_0, b2i_1, up_eq, up_ne, up_up, up_sort, up_self, fl_at, nI_s, q_119_96, q_119_98, q_119_101, q_119_102, q_119_105, q_119_107, q_119_108, q_119_110, q_119_111, q_119_114, q_119_116, q_119_117, q_119_118, q_119_119, q_119_120, q_119_121, q_119_122, zk_38, zk_51, zk_52, zs_38_1, zr_38_1, zs_38_2, zr_38_2, zs_38_3, zr_38_3, zs_38_4, zr_38_4, zs_38_8, zr_38_8, zs_38_17, zr_38_17, zs_38_18, zr_38_18, zs_38_19, zr_38_19, zs_38_22, zr_38_22, zs_38_23, zr_38_23, zs_38_25, zr_38_25, zs_38_26, zr_38_26, zs_38_28, zr_38_28, zs_38_29, zr_38_29, hZ, f0, f1, f2, f3, f4, g0, g1, g2, g4, g5, eq, e1]
      simp (decide := true) only [gN1_int, gN1_ref, gN1_null, gN1_long, gTg8_8, gTg8_14, gTg9_9, gTg9_13, gTgA_8, gTgA_9, gTgA_10, gTgA_11, gTgA_13, gTgA_14, gB01_0, gB01_1, gB01_b, List.cons_append, List.nil_append, Option.toList_some, Option.toList_none, Option.bind_some, ↓reduceIte, eq_self, not_true_eq_false, not_false_eq_true, b2i_0, b2i_1, up_eq, up_ne, up_up, up_sort, up_self, fl_at, nI_s, q_119_207, q_119_210]
theorem X7_tmH (hZ : St Z) (hM : HM I N w (-1)) {c m : Nat} (hc : c < N) (hm : m ≤ 64) {Sq : Nat → Nat} (h0 : Sq 0 = 0) (h1 : ∀ i, Sq i = i + GS (I 39) (I 40) (I 41) (I 42) w c (Sq i) c) (h2 : ∀ i, Sq i + 1 ≤ Sq (i + 1) ∧ Sq (i + 1) ≤ Sq i + 2) (h3 : ∀ n, pth (I 39) (I 40) (I 41) w (-1) c n c → 1 ≤ sD (I 39) (I 41) n c ∧ ∀ i, 1 ≤ i → Sq i % 2 ^ sD (I 39) (I 41) n c ≠ 0) {xg : Int32} (fS l : Nat → Int32) (hfS : ∀ j, j < N → fS j = 0) {u6 u7 u8 u9 : Value} : ∃ (fS' l' : Nat → Int32) (v6 v7 v8 v9 : Value) (o : Int32), g_at 119 75 [.ref 38, .int (nI c), .int xg, .int (nI m), .int 0, .int 0, u6, u7, u8, u9] [] Z (va_up (va_up I 51 fS) 52 l) J = g_at 119 219 [.ref 38, .int (nI c), .int xg, .int (nI m), .int o, .int (nI m), v6, v7, v8, v9] [] Z (va_up (va_up I 51 fS') 52 l') J ∧ ∀ j, j < N → fS' j = nI (FS (I 39) (I 40) (I 41) (I 42) w c (Sq m) j) := by
  have hM0 := hM
  obtain ⟨m1, m2, m3, m4, m5⟩ := hM
  obtain ⟨⟨w6, w7, w8, w9, fS', l'⟩, i1, e⟩ := loop_ink (fun i (b : Value × Value × Value × Value × (Nat → Int32) × (Nat → Int32)) => g_at 119 75 [.ref 38, .int (nI c), .int xg, .int (nI m), .int (bitsOf (odv (I 39) (I 40) (I 41) w N (FS (I 39) (I 40) (I 41) (I 42) w c (Sq i))) 10), .int (nI i), b.1, b.2.1, b.2.2.1, b.2.2.2.1] [] Z (va_up (va_up I 51 b.2.2.2.2.1) 52 b.2.2.2.2.2) J) (fun i b => ∀ j, j < N → b.2.2.2.2.1 j = nI (FS (I 39) (I 40) (I 41) (I 42) w c (Sq i) j)) (n := m) (fun i hi b hb => by
    obtain ⟨w6, w7, w8, w9, fS1, l1⟩ := b
    try dsimp only at hb ⊢
    have f3 : ¬ nI m ≤ nI i := nI_ge hi (by omega)
    have fix : ∀ i j, j < N → eqv (I 39) (I 40) (I 41) w c (i) (FS (I 39) (I 40) (I 41) (I 42) w c (Sq i)) (j) = FS (I 39) (I 40) (I 41) (I 42) w c (Sq i) j := fun i j hj => FS_fix m3 m2 (h1 i) hj
    have hle : ∀ j, FS (I 39) (I 40) (I 41) (I 42) w c (Sq i) j ≤ FS (I 39) (I 40) (I 41) (I 42) w c (Sq (i + 1)) j ∧ FS (I 39) (I 40) (I 41) (I 42) w c (Sq (i + 1)) j ≤ FS (I 39) (I 40) (I 41) (I 42) w c (Sq i) j + 2 := fun j => by
      obtain ⟨a1, a2⟩ := h2 i
      unfold FS
      by_cases z : j = c
      · rw [if_pos z, if_pos z]; omega
      · rw [if_neg z, if_neg z]
        unfold GS
        by_cases y : (trF (I 39) (I 40) (I 41) (I 42) w (-1) c 10 j 0 0 0).1 = true
        · rw [if_pos y, if_pos y]
          generalize 2 ^ (trF (I 39) (I 40) (I 41) (I 42) w (-1) c 10 j 0 0 0).2.2.1.toNatClampNeg = P
          refine ⟨Nat.div_le_div_right (by omega), ?_⟩
          rcases Nat.eq_zero_or_pos P with hP | hP
          · rw [hP, Nat.div_zero, Nat.div_zero]; omega
          · have b1 : Sq (i + 1) / P ≤ (Sq i + P * 2) / P := Nat.div_le_div_right (by
              have : 1 * 2 ≤ P * 2 := Nat.mul_le_mul_right 2 hP
              omega)
            rw [Nat.add_mul_div_left _ _ hP] at b1
            exact b1
        · rw [if_neg y, if_neg y]; omega
    obtain ⟨st', l2, fS2, v6, v7, v8, v9, s1, s2, s3, s4⟩ := X7_tmQ (J := J) hZ hM0 (c := c) (m := i + 1) (F := FS (I 39) (I 40) (I 41) (I 42) w c (Sq (i + 1))) (fun j hj => Nat.le_of_eq (fix (i + 1) j hj)) (xc := nI c) (xg := xg) (xm := nI m) (xk := nI i) 20 0 1 (FS (I 39) (I 40) (I 41) (I 42) w c (Sq i)) (va_up l1 0 (nI c)) fS1 w8 w9 (by omega) (by omega) (fun x hx => ⟨c, hc, by rw [show x = 0 by omega, up_eq]⟩) hb (fun j hj => by
      have a1 := fix i j hj
      unfold eqv at a1 ⊢
      rw [show (1 - 0 : Nat) = 0 + 1 from rfl, cq, cq, Nat.add_zero, up_eq]
      by_cases z : j = c
      · rw [if_pos z] at a1 ⊢
        rw [if_pos (by rw [z])]
        omega
      · rw [if_neg z] at a1 ⊢
        rw [if_neg (fun y => z ((nI_eq (by omega) (by omega)).mp y).symm)]
        omega) (fun j hj => (hle j).1) (by
      have a1 : sumN (FS (I 39) (I 40) (I 41) (I 42) w c (Sq (i + 1))) N ≤ sumN (fun j => FS (I 39) (I 40) (I 41) (I 42) w c (Sq i) j + 2) N := sumN_le N (fun j _ => (hle j).2)
      rw [sumN_add, sumN_two] at a1
      omega)
    have uq := FS_uniq (s := I 40) (k := I 41) (d := I 42) (w := w) m3 m2 hc (h1 (i + 1)) (fun n hp => ⟨(h3 n hp).1, (h3 n hp).2 (i + 1) (by omega)⟩) s3 s4
    have eb : bitsOf (odv (I 39) (I 40) (I 41) w N (st')) 10 = bitsOf (odv (I 39) (I 40) (I 41) w N (FS (I 39) (I 40) (I 41) (I 42) w c (Sq (i + 1)))) 10 := bitsOf_congr (fun x hx => by
      unfold odv
      cases hg : gd (I 39) (I 40) (I 41) w (-1) x
      · rfl
      · rw [uq _ (gd_hn m3 m2 hx hg).2])
    rw [eb] at s1
    refine ⟨(v6, v7, v8, v9, fS2, l2), fun j hj => by show fS2 j = _; rw [s2 j hj, uq j hj], ?_⟩
    rw [show nI 1 = (1 : Int32) from rfl, nI_0] at s1
    rw [q_119_75]
    simp (decide := true) only [gN1_int, gN1_ref, gN1_null, gN1_long, gTg8_8, gTg8_14, gTg9_9, gTg9_13, gTgA_8, gTgA_9, gTgA_10, gTgA_11, gTgA_13, gTgA_14, gB01_0, gB01_1, gB01_b, List.cons_append, List.nil_append, Option.toList_some, Option.toList_none, Option.bind_some, ↓reduceIte, eq_self, not_true_eq_false, not_false_eq_true, b2i_0, b2i_1, up_eq, up_ne, up_up, up_sort, up_self, fl_at, nI_s, q_119_77, q_119_78, q_119_81, q_119_82, q_119_84, q_119_85, q_119_88, q_119_89, q_119_90, q_119_91, q_119_92, zk_38, zk_52, zs_38_1, zr_38_1, zs_38_2, zr_38_2, zs_38_3, zr_38_3, zs_38_4, zr_38_4, zs_38_8, zr_38_8, zs_38_17, zr_38_17, zs_38_18, zr_38_18, zs_38_19, zr_38_19, zs_38_22, zr_38_22, zs_38_23, zr_38_23, zs_38_25, zr_38_25, zs_38_26, zr_38_26, zs_38_28, zr_38_28, zs_38_29, zr_38_29, hZ, f3, show Int32.toNatClampNeg 0 = 0 from rfl]
    rw [s1]
    simp (decide := true) only [gN1_int, gN1_ref, gN1_null, gN1_long, gTg8_8, gTg8_14, gTg9_9, gTg9_13, gTgA_8, gTgA_9, gTgA_10, gTgA_11, gTgA_13, gTgA_14, gB01_0, gB01_1, gB01_b, List.cons_append, List.nil_append, Option.toList_some, Option.toList_none, Option.bind_some, ↓reduceIte, eq_self, not_true_eq_false, not_false_eq_true, b2i_0, b2i_1, up_eq, up_ne, up_up, up_sort, up_self, fl_at, nI_s, q_119_213, q_119_216]) (u6, u7, u8, u9, fS, l) (fun j hj => by
      show fS j = _
      rw [hfS j hj, h0]
      unfold FS GS
      by_cases z : j = c
      · rw [if_pos z]; rfl
      · rw [if_neg z, Nat.zero_div]
        split <;> rfl)
  refine ⟨fS', l', w6, w7, w8, w9, bitsOf (odv (I 39) (I 40) (I 41) w N (FS (I 39) (I 40) (I 41) (I 42) w c (Sq m))) 10, ?_, i1⟩
  have e0 : bitsOf (odv (I 39) (I 40) (I 41) w N (FS (I 39) (I 40) (I 41) (I 42) w c (Sq 0))) 10 = 0 := by
    have : bitsOf (odv (I 39) (I 40) (I 41) w N (FS (I 39) (I 40) (I 41) (I 42) w c (Sq 0))) 10 = bitsOf (fun _ => false) 10 := bitsOf_congr (fun x hx => by
      unfold odv
      have z : FS (I 39) (I 40) (I 41) (I 42) w c (Sq 0) (hn (I 39) x) = 0 := by
        rw [h0]
        unfold FS GS
        by_cases z : hn (I 39) x = c
        · rw [if_pos z]
        · rw [if_neg z, Nat.zero_div]
          split <;> rfl
      rw [z]
      simp)
    rw [this]
    decide
  try dsimp only at e
  rw [e0, nI_0] at e
  rw [e, q_119_75]
  simp (decide := true) only [gN1_int, gN1_ref, gN1_null, gN1_long, gTg8_8, gTg8_14, gTg9_9, gTg9_13, gTgA_8, gTgA_9, gTgA_10, gTgA_11, gTgA_13, gTgA_14, gB01_0, gB01_1, gB01_b, List.cons_append, List.nil_append, Option.toList_some, Option.toList_none, Option.bind_some, ↓reduceIte, eq_self, not_true_eq_false, not_false_eq_true, b2i_0, b2i_1, up_eq, up_ne, up_up, up_sort, up_self, fl_at, nI_s, q_119_77, q_119_78, Int32.le_refl]
end
