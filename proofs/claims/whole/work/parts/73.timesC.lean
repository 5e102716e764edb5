/-! TIMES, the same on both sides -/
section
variable {Z : gZ} {I : gI} {J : gJ} {N : Nat} {w : Int32}
theorem srF_SM {d : Nat} (hd : d ≤ 10) (m : Nat) : m ≤ 64 → srF ((1 <<< (nI d &&& 31)) - 1) m = nI (SM (2 ^ d) m) := by
  have e1 : ((1 : Int32) <<< (nI d &&& 31)) - 1 = nI (2 ^ d - 1) := by
    rw [sh1 d (by omega)]
    exact nI_sb (v := 1) Nat.one_le_two_pow
  have hp : 2 ^ d ≤ 2 ^ 10 := Nat.pow_le_pow_right (by omega) hd
  have hpos : 0 < 2 ^ d := Nat.two_pow_pos d
  rw [e1]
  induction m with
  | zero => intro _; rfl
  | succ m ih =>
    intro hm
    have hle := SM_le (P := 2 ^ d) m
    have hlt := Nat.mod_lt (SM (2 ^ d) m + 1) hpos
    rw [srF, SM, ih (by omega), nI_1, nI_and, Nat.and_two_pow_sub_one_eq_mod]
    by_cases q : (SM (2 ^ d) m + 1) % 2 ^ d = 0
    · rw [if_pos q, if_pos (by rw [q]; rfl), nI_1]
    · rw [if_neg q, if_neg (nI_ne0 (by omega) (by omega))]
theorem ne_410 : ∀ n, n ≤ 410 → ¬ nI n = -1 := by decide +kernel
theorem st_none {h s k d : Nat → Int32} {c g m : Nat} (hw : Hw h N) (hN : N ≤ 10) (hd : Dl d) (hc : c < N) {n : Nat} (hp : pth h s k w (-1) c n c) (h0 : sD h k n c = 0) : stF h s k d w (-1) c g m = -1 ∧ ¬ rdF h s k d w (-1) N c = -1 := by
  have hle := pth_le hw hN hc hp
  refine ⟨?_, ?_⟩
  · unfold stF
    rw [tr_yes hp (by omega), h0, if_pos ⟨rfl, by rfl⟩]
  · unfold rdF
    rw [ro_yes hp hle h0, Int32.zero_add]
    obtain ⟨u, b, e⟩ := sL_bd (s := s) (k := k) (w := w) (sl := -1) hw hN hd n c hc hp
    rw [e]
    exact ne_410 u (by omega)
theorem st_FS {h s k d : Nat → Int32} {c g m S : Nat} (hw : Hw h N) (hN : N ≤ 10) (hc : c < N) (hg : g < N) (hS : S ≤ 128) (hr : (∃ n, pth h s k w (-1) c n c ∧ 1 ≤ sD h k n c ∧ srF ((1 <<< (nI (sD h k n c) &&& 31)) - 1) m = nI S) ∨ ((¬ ∃ n, pth h s k w (-1) c n c) ∧ S = m)) : stF h s k d w (-1) c g m = nI (FS h s k d w c S g) := by
  have hown : (if (trF h s k d w (-1) c 10 c 0 0 0).1 = true then srF ((1 <<< ((trF h s k d w (-1) c 10 c 0 0 0).2.2.1 &&& 31)) - 1) m else nI m) = nI S ∧ ¬ ((trF h s k d w (-1) c 10 c 0 0 0).1 = true ∧ (trF h s k d w (-1) c 10 c 0 0 0).2.2.1 = 0) := by
    rcases hr with ⟨n, hp, h1, h2⟩ | ⟨hno, e⟩
    · have hle := pth_le hw hN hc hp
      have hdl := sD_le (h := h) (k := k) n c
      rw [tr_yes hp (by omega)]
      refine ⟨?_, fun z => ?_⟩
      · rw [if_pos rfl]
        show srF ((1 <<< ((0 + nI (sD h k n c)) &&& 31)) - 1) m = nI S
        rw [Int32.zero_add]
        exact h2
      · have z2 : 0 + nI (sD h k n c) = 0 := z.2
        rw [Int32.zero_add] at z2
        exact nI_ne0 (by omega) (by omega) z2
    · have : (trF h s k d w (-1) c 10 c 0 0 0).1 = false := tr_no (fun ⟨n, _, h2⟩ => hno ⟨n, h2⟩)
      rw [this]
      exact ⟨by rw [if_neg (by decide), e], fun z => absurd z.1 (by decide)⟩
  unfold stF FS
  rw [if_neg hown.2, hown.1]
  by_cases z : g = c
  · rw [if_pos z, if_pos z]
  · rw [if_neg z, if_neg z]
    by_cases hex : ∃ n, pth h s k w (-1) c n g
    · obtain ⟨n, hp⟩ := hex
      have hle := pth_le hw hN hg hp
      have hdl := sD_le (h := h) (k := k) n g
      rw [GS_yes hw hN hg hp, tr_yes hp (by omega), if_pos rfl]
      show nI S >>> ((0 + nI (sD h k n g)) &&& 31) = _
      rw [Int32.zero_add, shr_nI (by omega) (by omega)]
    · rw [GS_no hex, if_neg (by rw [tr_no (fun ⟨n, _, h2⟩ => hex ⟨n, h2⟩)]; decide)]
      rfl
theorem X7_times_no (hZ : St Z) {sl : Int32} (h : HM I N w sl) (h1 : 1 ≤ N) {c g m : Int32} (hg : hasG (nI N) c = false ∨ hasG (nI N) g = false) : g_at 119 0 [.ref 38, .int c, .int g, .int m, .null, .null, .null, .null, .null, .null] [] Z I J = some (some (.int (-2)), Z, I, J) := by
  by_cases q : hasG (nI N) c = false
  · simp (decide := true) only [gN1_int, gN1_ref, gN1_null, gN1_long, gTg8_8, gTg8_14, gTg9_9, gTg9_13, gTgA_8, gTgA_9, gTgA_10, gTgA_11, gTgA_13, gTgA_14, gB01_0, gB01_1, gB01_b, List.cons_append, List.nil_append, Option.toList_some, Option.toList_none, Option.bind_some, ↓reduceIte, eq_self, not_true_eq_false, not_false_eq_true, b2i_0, b2i_1, up_eq, up_ne, up_up, up_sort, up_self, fl_at, nI_s, q_119_0, q_119_1, q_119_2, q_119_5, q_119_8, q_119_9, q_119_10, q_119_13, q_119_16, q_119_18, q_119_19, q_119_20, q_119_21, q_119_23, q_119_26, q_119_29, q_119_31, q_119_32, q_119_33, q_119_34, q_119_37, q_119_38, q_119_41, q_119_42, zk_38, zs_38_1, zr_38_1, zs_38_2, zr_38_2, zs_38_3, zr_38_3, zs_38_4, zr_38_4, zs_38_8, zr_38_8, zs_38_17, zr_38_17, zs_38_18, zr_38_18, zs_38_19, zr_38_19, zs_38_22, zr_38_22, zs_38_23, zr_38_23, zs_38_25, zr_38_25, zs_38_26, zr_38_26, zs_38_28, zr_38_28, zs_38_29, zr_38_29, hZ, hm_is hZ h h1, q]
  · have q2 := hg.resolve_left q
    simp (decide := true) only [gN1_int, gN1_ref, gN1_null, gN1_long, gTg8_8, gTg8_14, gTg9_9, gTg9_13, gTgA_8, gTgA_9, gTgA_10, gTgA_11, gTgA_13, gTgA_14, gB01_0, gB01_1, gB01_b, List.cons_append, List.nil_append, Option.toList_some, Option.toList_none, Option.bind_some, ↓reduceIte, eq_self, not_true_eq_false, not_false_eq_true, b2i_0, b2i_1, up_eq, up_ne, up_up, up_sort, up_self, fl_at, nI_s, q_119_0, q_119_1, q_119_2, q_119_5, q_119_8, q_119_9, q_119_10, q_119_13, q_119_16, q_119_18, q_119_19, q_119_20, q_119_21, q_119_23, q_119_26, q_119_29, q_119_31, q_119_32, q_119_33, q_119_34, q_119_37, q_119_38, q_119_41, q_119_42, zk_38, zs_38_1, zr_38_1, zs_38_2, zr_38_2, zs_38_3, zr_38_3, zs_38_4, zr_38_4, zs_38_8, zr_38_8, zs_38_17, zr_38_17, zs_38_18, zr_38_18, zs_38_19, zr_38_19, zs_38_22, zr_38_22, zs_38_23, zr_38_23, zs_38_25, zr_38_25, zs_38_26, zr_38_26, zs_38_28, zr_38_28, zs_38_29, zr_38_29, hZ, hm_is hZ h h1, q, q2]
theorem X7_times_out (hZ : St Z) {sl : Int32} (h : HM I N w sl) {c g : Nat} (hc : c < N) (hg : g < N) {m : Int32} (hm : m < 1 ∨ ¬ m ≤ 64) : g_at 119 0 [.ref 38, .int (nI c), .int (nI g), .int m, .null, .null, .null, .null, .null, .null] [] Z I J = some (some (.int (-3)), Z, I, J) := by
  have hin : (decide (1 ≤ m) && decide (m ≤ 64)) = false := by
    rcases hm with q | q
    · simp [Int32.not_le.mpr q]
    · simp [q]
  simp (decide := true) only [gN1_int, gN1_ref, gN1_null, gN1_long, gTg8_8, gTg8_14, gTg9_9, gTg9_13, gTgA_8, gTgA_9, gTgA_10, gTgA_11, gTgA_13, gTgA_14, gB01_0, gB01_1, gB01_b, List.cons_append, List.nil_append, Option.toList_some, Option.toList_none, Option.bind_some, ↓reduceIte, eq_self, not_true_eq_false, not_false_eq_true, b2i_0, b2i_1, up_eq, up_ne, up_up, up_sort, up_self, fl_at, nI_s, q_119_0, q_119_1, q_119_2, q_119_5, q_119_8, q_119_9, q_119_10, q_119_13, q_119_16, q_119_18, q_119_19, q_119_20, q_119_21, q_119_23, q_119_26, q_119_29, q_119_31, q_119_32, q_119_33, q_119_34, q_119_37, q_119_38, q_119_41, q_119_42, zk_38, zs_38_1, zr_38_1, zs_38_2, zr_38_2, zs_38_3, zr_38_3, zs_38_4, zr_38_4, zs_38_8, zr_38_8, zs_38_17, zr_38_17, zs_38_18, zr_38_18, zs_38_19, zr_38_19, zs_38_22, zr_38_22, zs_38_23, zr_38_23, zs_38_25, zr_38_25, zs_38_26, zr_38_26, zs_38_28, zr_38_28, zs_38_29, zr_38_29, hZ, hm_is hZ h (show 1 ≤ N by omega), hm_g h hc, hm_g h hg, X7_in, hin, Bool.true_eq_false]
theorem X7_times (hZ : St Z) (h : HM I N w (-1)) (hd : Dl (I 42)) {c g m : Nat} (hc : c < N) (hg : g < N) (h1 : 1 ≤ m) (h2 : m ≤ 64) : ∃ f l, g_at 119 0 [.ref 38, .int (nI c), .int (nI g), .int (nI m), .null, .null, .null, .null, .null, .null] [] Z I J = some (some (.int (stF (I 39) (I 40) (I 41) (I 42) w (-1) c g m)), Z, va_up (va_up I 51 f) 52 l, J) := by
  have h0 := h
  obtain ⟨m1, m2, m3, m4, m5⟩ := h
  have hin : (decide (1 ≤ nI m) && decide (nI m ≤ 64)) = true := by
    have a1 : (1 : Int32) ≤ nI m := nI_le (a := 1) h1 (by omega)
    have a2 : nI m ≤ (64 : Int32) := nI_le (b := 64) h2 (by omega)
    rw [decide_eq_true a1, decide_eq_true a2]
    rfl
  have hro := X7_roundOf (J := J) hZ h0 hc
  by_cases hz : ∃ n, pth (I 39) (I 40) (I 41) w (-1) c n c ∧ sD (I 39) (I 41) n c = 0
  · obtain ⟨n, hp, hs⟩ := hz
    obtain ⟨e1, e2⟩ := st_none (d := I 42) (g := g) (m := m) m3 m2 hd hc hp hs
    rw [e1]
    refine ⟨I 51, I 52, ?_⟩
    rw [up_self, up_self]
    simp (decide := true) only [gN1_int, gN1_ref, gN1_null, gN1_long, gTg8_8, gTg8_14, gTg9_9, gTg9_13, gTgA_8, gTgA_9, gTgA_10, gTgA_11, gTgA_13, gTgA_14, gB01_0, gB01_1, gB01_b, List.cons_append, List.nil_append, Option.toList_some, Option.toList_none, Option.bind_some, ↓reduceIte, eq_self, not_true_eq_false, not_false_eq_true, b2i_0, b2i_1, up_eq, up_ne, up_up, up_sort, up_self, fl_at, nI_s, q_119_0, q_119_1, q_119_2, q_119_5, q_119_8, q_119_9, q_119_10, q_119_13, q_119_16, q_119_18, q_119_19, q_119_20, q_119_21, q_119_23, q_119_26, q_119_29, q_119_31, q_119_32, q_119_33, q_119_34, q_119_37, q_119_38, q_119_41, q_119_42, zk_38, zs_38_1, zr_38_1, zs_38_2, zr_38_2, zs_38_3, zr_38_3, zs_38_4, zr_38_4, zs_38_8, zr_38_8, zs_38_17, zr_38_17, zs_38_18, zr_38_18, zs_38_19, zr_38_19, zs_38_22, zr_38_22, zs_38_23, zr_38_23, zs_38_25, zr_38_25, zs_38_26, zr_38_26, zs_38_28, zr_38_28, zs_38_29, zr_38_29, hZ, hm_is hZ h0 (show 1 ≤ N by omega), hm_g h0 hc, hm_g h0 hg, X7_in, hin, hro, e2, Bool.true_eq_false]
  · have hrd : rdF (I 39) (I 40) (I 41) (I 42) w (-1) N c = -1 := by
      unfold rdF
      exact ro_no (fun ⟨n, _, q1, q2⟩ => hz ⟨n, q1, q2⟩)
    obtain ⟨g0, g1, g2⟩ := ixs (j := g) (by omega)
    have g4 : g < 10 := by omega
    have key := loop_eq (fun j => g_at 119 49 [.ref 38, .int (nI c), .int (nI g), .int (nI m), .int 0, .int (nI j), .null, .null, .null, .null] [] Z (va_up I 51 (fl (fun _ => 0) (I 51) j)) J) (n := N) (fun j hj => by
      obtain ⟨f0, f1, f2⟩ := ixs (j := j) (by omega)
      have f3 : ¬ nI N ≤ nI j := nI_ge hj (by omega)
      have f4 : j < 10 := by omega
      try dsimp only
      rw [q_119_49]
      simp (decide := true) only [gN1_int, gN1_ref, gN1_null, gN1_long, gTg8_8, gTg8_14, gTg9_9, gTg9_13, gTgA_8, gTgA_9, gTgA_10, gTgA_11, gTgA_13, gTgA_14, gB01_0, gB01_1, gB01_b, List.cons_append, List.nil_append, Option.toList_some, Option.toList_none, Option.bind_some, ↓reduceIte, eq_self, not_true_eq_false, not_false_eq_true, b2i_0, b2i_1, up_eq, up_ne, up_up, up_sort, up_self, fl_at, nI_s, q_119_51, q_119_52, q_119_55, q_119_58, q_119_59, q_119_62, q_119_64, q_119_65, q_119_66, q_119_69, zk_38, zk_51, zs_38_1, zr_38_1, zs_38_2, zr_38_2, zs_38_3, zr_38_3, zs_38_4, zr_38_4, zs_38_8, zr_38_8, zs_38_17, zr_38_17, zs_38_18, zr_38_18, zs_38_19, zr_38_19, zs_38_22, zr_38_22, zs_38_23, zr_38_23, zs_38_25, zr_38_25, zs_38_26, zr_38_26, zs_38_28, zr_38_28, zs_38_29, zr_38_29, hZ, m1, f0, f1, f2, f3, f4, fl_next])
    simp (decide := true) only [fl_0, up_self, nI_0] at key
    have hq : ∃ Sq : Nat → Nat, Sq 0 = 0 ∧ (∀ i, Sq i = i + GS (I 39) (I 40) (I 41) (I 42) w c (Sq i) c) ∧ (∀ i, Sq i + 1 ≤ Sq (i + 1) ∧ Sq (i + 1) ≤ Sq i + 2) ∧ (∀ n, pth (I 39) (I 40) (I 41) w (-1) c n c → 1 ≤ sD (I 39) (I 41) n c ∧ ∀ i, 1 ≤ i → Sq i % 2 ^ sD (I 39) (I 41) n c ≠ 0) ∧ stF (I 39) (I 40) (I 41) (I 42) w (-1) c g m = nI (FS (I 39) (I 40) (I 41) (I 42) w c (Sq m) g) := by
      by_cases hex : ∃ n, pth (I 39) (I 40) (I 41) w (-1) c n c
      · obtain ⟨n, hp⟩ := hex
        have hle := pth_le m3 m2 hc hp
        have hdl := sD_le (h := I 39) (k := I 41) n c
        have hd1 : 1 ≤ sD (I 39) (I 41) n c := by
          rcases Nat.eq_zero_or_pos (sD (I 39) (I 41) n c) with q | q
          · exact absurd ⟨n, hp, q⟩ hz
          · exact q
        have hP : 2 ^ 1 ≤ 2 ^ sD (I 39) (I 41) n c := Nat.pow_le_pow_right (by omega) hd1
        refine ⟨SM (2 ^ sD (I 39) (I 41) n c), rfl, fun i => ?_, fun i => SM_s, fun n' hp' => ?_, ?_⟩
        · rw [GS_yes m3 m2 hc hp]
          exact (SM_fix (by omega) i).1
        · have e := pth_one hp' hp
          subst e
          exact ⟨hd1, fun i hi => (SM_fix (by omega) i).2 hi⟩
        · have hSl := SM_le (P := 2 ^ sD (I 39) (I 41) n c) m
          exact st_FS m3 m2 hc hg (by omega) (Or.inl ⟨n, hp, hd1, srF_SM (by omega) m h2⟩)
      · refine ⟨fun i => i, rfl, fun i => by rw [GS_no hex]; rfl, fun i => ⟨Nat.le_refl _, Nat.le_succ (i + 1)⟩, fun n hp => absurd ⟨n, hp⟩ hex, ?_⟩
        exact st_FS m3 m2 hc hg (show m ≤ 128 by omega) (Or.inr ⟨hex, rfl⟩)
    obtain ⟨Sq, s0, s1, s2, s3, s4⟩ := hq
    obtain ⟨fS', l', v6, v7, v8, v9, o, t1, t2⟩ := X7_tmH (J := J) hZ h0 hc h2 s0 s1 s2 s3 (xg := nI g) (fl (fun _ => 0) (I 51) N) (I 52) (fun j hj => fl_lt hj) (u6 := .null) (u7 := .null) (u8 := .null) (u9 := .null)
    rw [up_self2 (by decide)] at t1
    refine ⟨fS', l', ?_⟩
    rw [s4, ← t2 g hg]
    simp (decide := true) only [gN1_int, gN1_ref, gN1_null, gN1_long, gTg8_8, gTg8_14, gTg9_9, gTg9_13, gTgA_8, gTgA_9, gTgA_10, gTgA_11, gTgA_13, gTgA_14, gB01_0, gB01_1, gB01_b, List.cons_append, List.nil_append, Option.toList_some, Option.toList_none, Option.bind_some, ↓reduceIte, eq_self, not_true_eq_false, not_false_eq_true, b2i_0, b2i_1, up_eq, up_ne, up_up, up_sort, up_self, fl_at, nI_s, q_119_0, q_119_1, q_119_2, q_119_5, q_119_8, q_119_9, q_119_10, q_119_13, q_119_16, q_119_18, q_119_19, q_119_20, q_119_21, q_119_23, q_119_26, q_119_29, q_119_31, q_119_32, q_119_33, q_119_34, q_119_37, q_119_38, q_119_41, q_119_42, q_119_43, q_119_44, q_119_46, q_119_47, zk_38, zs_38_1, zr_38_1, zs_38_2, zr_38_2, zs_38_3, zr_38_3, zs_38_4, zr_38_4, zs_38_8, zr_38_8, zs_38_17, zr_38_17, zs_38_18, zr_38_18, zs_38_19, zr_38_19, zs_38_22, zr_38_22, zs_38_23, zr_38_23, zs_38_25, zr_38_25, zs_38_26, zr_38_26, zs_38_28, zr_38_28, zs_38_29, zr_38_29, hZ, hm_is hZ h0 (show 1 ≤ N by omega), hm_g h0 hc, hm_g h0 hg, X7_in, hin, hro, hrd, Bool.true_eq_false]
    rw [key, q_119_49]
    simp (decide := true) only [gN1_int, gN1_ref, gN1_null, gN1_long, gTg8_8, gTg8_14, gTg9_9, gTg9_13, gTgA_8, gTgA_9, gTgA_10, gTgA_11, gTgA_13, gTgA_14, gB01_0, gB01_1, gB01_b, List.cons_append, List.nil_append, Option.toList_some, Option.toList_none, Option.bind_some, ↓reduceIte, eq_self, not_true_eq_false, not_false_eq_true, b2i_0, b2i_1, up_eq, up_ne, up_up, up_sort, up_self, fl_at, nI_s, q_119_51, q_119_52, q_119_55, q_119_58, q_119_59, q_119_62, q_119_64, q_119_65, q_119_66, q_119_69, q_119_72, q_119_73, zk_38, zs_38_1, zr_38_1, zs_38_2, zr_38_2, zs_38_3, zr_38_3, zs_38_4, zr_38_4, zs_38_8, zr_38_8, zs_38_17, zr_38_17, zs_38_18, zr_38_18, zs_38_19, zr_38_19, zs_38_22, zr_38_22, zs_38_23, zr_38_23, zs_38_25, zr_38_25, zs_38_26, zr_38_26, zs_38_28, zr_38_28, zs_38_29, zr_38_29, hZ, m1, Int32.le_refl]
    rw [t1]
    simp (decide := true) only [gN1_int, gN1_ref, gN1_null, gN1_long, gTg8_8, gTg8_14, gTg9_9, gTg9_13, gTgA_8, gTgA_9, gTgA_10, gTgA_11, gTgA_13, gTgA_14, gB01_0, gB01_1, gB01_b, List.cons_append, List.nil_append, Option.toList_some, Option.toList_none, Option.bind_some, ↓reduceIte, eq_self, not_true_eq_false, not_false_eq_true, b2i_0, b2i_1, up_eq, up_ne, up_up, up_sort, up_self, fl_at, nI_s, q_119_219, q_119_220, q_119_223, q_119_224, q_119_225, zk_38, zk_51, zs_38_1, zr_38_1, zs_38_2, zr_38_2, zs_38_3, zr_38_3, zs_38_4, zr_38_4, zs_38_8, zr_38_8, zs_38_17, zr_38_17, zs_38_18, zr_38_18, zs_38_19, zr_38_19, zs_38_22, zr_38_22, zs_38_23, zr_38_23, zs_38_25, zr_38_25, zs_38_26, zr_38_26, zs_38_28, zr_38_28, zs_38_29, zr_38_29, hZ, g0, g1, g2, g4]
end
