/-! the reference's ODDS, its answers -/
section
variable {h s k d : Nat → Int32} {w sl : Int32} {c N : Nat}
theorem itr_ne (i : Nat) : ∀ (n a : Nat), i < n → a ≠ c → pth h s k w sl c n a → itr h i a ≠ c := by
  induction i with
  | zero => intro n a _ ha _; exact ha
  | succ i ih =>
    intro n a hi ha hp
    cases n with
    | zero => omega
    | succ n =>
      rw [itr]
      rcases hp.2 with ⟨e1, e2⟩ | ⟨e1, e2⟩
      · omega
      · exact ih n _ (by omega) e1 e2
theorem pth_lt (hw : Hw h N) (hN : N ≤ 10) (hc : c < N) {n a : Nat} (ha : a < N) (hac : a ≠ c) (hp : pth h s k w sl c n a) : n ≤ N - 1 := by
  refine holes (N - 1) n (fun i => if itr h i a < c then itr h i a else itr h i a - 1) (fun i hi => ?_) (fun i j hij hj => ?_)
  · have h1 := (pth_itr hw hN hi ha hp).2
    have h2 := itr_ne i n a hi hac hp
    show (if itr h i a < c then itr h i a else itr h i a - 1) < N - 1
    split <;> omega
  · have h1 := pth_itr hw hN (show i < n by omega) ha hp
    have h2 := pth_itr hw hN hj ha hp
    have e1 := itr_ne i n a (by omega) hac hp
    have e2 := itr_ne j n a hj hac hp
    have hne : itr h i a ≠ itr h j a := fun e => by
      have p1 := h1.1
      rw [e] at p1
      have := pth_one p1 h2.1
      omega
    show (if itr h i a < c then itr h i a else itr h i a - 1) ≠ (if itr h j a < c then itr h j a else itr h j a - 1)
    split <;> split <;> omega
end
section
variable {Z : gZ} {I : gI} {J : gJ} {N : Nat} {w sl : Int32}
theorem X7_odds_no (hZ : St Z) (h : HM I N w sl) (h1 : 1 ≤ N) {c g p b : Int32} (hg : hasG (nI N) c = false ∨ hasG (nI N) g = false) : g_at 127 0 [.ref 38, .int c, .int g, .int p, .int b, .null, .null, .null, .null, .null] [] Z I J = some (some (.int (-2)), Z, I, J) := by
  by_cases q : hasG (nI N) c = false
  · simp (decide := true) only [gN1_int, gN1_ref, gN1_null, gN1_long, gTg8_8, gTg8_14, gTg9_9, gTg9_13, gTgA_8, gTgA_9, gTgA_10, gTgA_11, gTgA_13, gTgA_14, gB01_0, gB01_1, gB01_b, List.cons_append, List.nil_append, Option.toList_some, Option.toList_none, Option.bind_some, ↓reduceIte, eq_self, not_true_eq_false, not_false_eq_true, b2i_0, b2i_1, up_eq, up_ne, up_up, up_sort, up_self, fl_at, nI_s, q_127_0, q_127_1, q_127_2, q_127_5, q_127_8, q_127_9, q_127_10, q_127_13, q_127_16, q_127_18, q_127_19, q_127_20, q_127_21, q_127_23, q_127_26, q_127_29, q_127_31, q_127_32, q_127_33, q_127_36, q_127_39, q_127_41, q_127_42, zk_38, zs_38_1, zr_38_1, zs_38_2, zr_38_2, zs_38_3, zr_38_3, zs_38_4, zr_38_4, zs_38_8, zr_38_8, zs_38_17, zr_38_17, zs_38_18, zr_38_18, zs_38_19, zr_38_19, zs_38_22, zr_38_22, zs_38_23, zr_38_23, zs_38_25, zr_38_25, zs_38_26, zr_38_26, zs_38_28, zr_38_28, zs_38_29, zr_38_29, hZ, hm_is hZ h h1, q]
  · have q2 := hg.resolve_left q
    simp (decide := true) only [gN1_int, gN1_ref, gN1_null, gN1_long, gTg8_8, gTg8_14, gTg9_9, gTg9_13, gTgA_8, gTgA_9, gTgA_10, gTgA_11, gTgA_13, gTgA_14, gB01_0, gB01_1, gB01_b, List.cons_append, List.nil_append, Option.toList_some, Option.toList_none, Option.bind_some, ↓reduceIte, eq_self, not_true_eq_false, not_false_eq_true, b2i_0, b2i_1, up_eq, up_ne, up_up, up_sort, up_self, fl_at, nI_s, q_127_0, q_127_1, q_127_2, q_127_5, q_127_8, q_127_9, q_127_10, q_127_13, q_127_16, q_127_18, q_127_19, q_127_20, q_127_21, q_127_23, q_127_26, q_127_29, q_127_31, q_127_32, q_127_33, q_127_36, q_127_39, q_127_41, q_127_42, zk_38, zs_38_1, zr_38_1, zs_38_2, zr_38_2, zs_38_3, zr_38_3, zs_38_4, zr_38_4, zs_38_8, zr_38_8, zs_38_17, zr_38_17, zs_38_18, zr_38_18, zs_38_19, zr_38_19, zs_38_22, zr_38_22, zs_38_23, zr_38_23, zs_38_25, zr_38_25, zs_38_26, zr_38_26, zs_38_28, zr_38_28, zs_38_29, zr_38_29, hZ, hm_is hZ h h1, q, q2]
theorem X7_odds_out (hZ : St Z) (h : HM I N w sl) {c g : Nat} (hc : c < N) (hg : g < N) {p b : Int32} (hm : p < 0 ∨ 10 < p ∨ b < 0 ∨ ¬ b ≤ 1) : g_at 127 0 [.ref 38, .int (nI c), .int (nI g), .int p, .int b, .null, .null, .null, .null, .null] [] Z I J = some (some (.int (-3)), Z, I, J) := by
  cases q : (decide (0 ≤ p) && decide (p ≤ 10))
  · simp (decide := true) only [gN1_int, gN1_ref, gN1_null, gN1_long, gTg8_8, gTg8_14, gTg9_9, gTg9_13, gTgA_8, gTgA_9, gTgA_10, gTgA_11, gTgA_13, gTgA_14, gB01_0, gB01_1, gB01_b, List.cons_append, List.nil_append, Option.toList_some, Option.toList_none, Option.bind_some, ↓reduceIte, eq_self, not_true_eq_false, not_false_eq_true, b2i_0, b2i_1, up_eq, up_ne, up_up, up_sort, up_self, fl_at, nI_s, q_127_0, q_127_1, q_127_2, q_127_5, q_127_8, q_127_9, q_127_10, q_127_13, q_127_16, q_127_18, q_127_19, q_127_20, q_127_21, q_127_23, q_127_26, q_127_29, q_127_31, q_127_32, q_127_33, q_127_36, q_127_39, q_127_41, q_127_42, zk_38, zs_38_1, zr_38_1, zs_38_2, zr_38_2, zs_38_3, zr_38_3, zs_38_4, zr_38_4, zs_38_8, zr_38_8, zs_38_17, zr_38_17, zs_38_18, zr_38_18, zs_38_19, zr_38_19, zs_38_22, zr_38_22, zs_38_23, zr_38_23, zs_38_25, zr_38_25, zs_38_26, zr_38_26, zs_38_28, zr_38_28, zs_38_29, zr_38_29, hZ, hm_is hZ h (show 1 ≤ N by omega), hm_g h hc, hm_g h hg, X7_in, q, Bool.true_eq_false]
  · have q2 : (decide (0 ≤ b) && decide (b ≤ 1)) = false := by
      simp at q
      rcases hm with z | z | z | z
      · exact absurd q.1 (Int32.not_le.mpr z)
      · exact absurd q.2 (Int32.not_le.mpr z)
      · simp [Int32.not_le.mpr z]
      · simp [z]
    simp (decide := true) only [gN1_int, gN1_ref, gN1_null, gN1_long, gTg8_8, gTg8_14, gTg9_9, gTg9_13, gTgA_8, gTgA_9, gTgA_10, gTgA_11, gTgA_13, gTgA_14, gB01_0, gB01_1, gB01_b, List.cons_append, List.nil_append, Option.toList_some, Option.toList_none, Option.bind_some, ↓reduceIte, eq_self, not_true_eq_false, not_false_eq_true, b2i_0, b2i_1, up_eq, up_ne, up_up, up_sort, up_self, fl_at, nI_s, q_127_0, q_127_1, q_127_2, q_127_5, q_127_8, q_127_9, q_127_10, q_127_13, q_127_16, q_127_18, q_127_19, q_127_20, q_127_21, q_127_23, q_127_26, q_127_29, q_127_31, q_127_32, q_127_33, q_127_36, q_127_39, q_127_41, q_127_42, zk_38, zs_38_1, zr_38_1, zs_38_2, zr_38_2, zs_38_3, zr_38_3, zs_38_4, zr_38_4, zs_38_8, zr_38_8, zs_38_17, zr_38_17, zs_38_18, zr_38_18, zs_38_19, zr_38_19, zs_38_22, zr_38_22, zs_38_23, zr_38_23, zs_38_25, zr_38_25, zs_38_26, zr_38_26, zs_38_28, zr_38_28, zs_38_29, zr_38_29, hZ, hm_is hZ h (show 1 ≤ N by omega), hm_g h hc, hm_g h hg, X7_in, q, q2, Bool.true_eq_false]
def odC (a b v : Int32) (n : Nat) : Bool := match egO 60 (pwI a n) (pwI 10 n) with
  | none => false
  | some r => !decide (r = 0) && decide ((if b = 0 then pwI a n / r else pwI 10 n / r) = pwI v n)
theorem odC_ex {a b v : Int32} {n : Nat} (h : odC a b v n = true) : ∃ r, egO 60 (pwI a n) (pwI 10 n) = some r ∧ ¬ r = 0 ∧ (if b = 0 then pwI a n / r else pwI 10 n / r) = pwI v n := by
  unfold odC at h
  split at h
  · exact absurd h (by decide)
  · rename_i r hr
    simp at h
    exact ⟨r, hr, h.1, h.2⟩
theorem odC_0_0 : ∀ n, n < 10 → odC 10 0 1 n = true := by decide +kernel
theorem X7_odds_0_0 (hZ : St Z) (h : HM I N w sl) {c g : Nat} (hc : c < N) (hg : g < N) : (mtF (I 39) (I 40) (I 41) (I 42) w sl N c g = -1 → g_at 127 0 [.ref 38, .int (nI c), .int (nI g), .int 0, .int 0, .null, .null, .null, .null, .null] [] Z I J = some (some (.int 0), Z, I, J)) ∧ (∀ n, ¬ mtF (I 39) (I 40) (I 41) (I 42) w sl N c g = -1 → ((g = c ∧ n = 0) ∨ (g ≠ c ∧ pth (I 39) (I 40) (I 41) w sl c n g)) → g_at 127 0 [.ref 38, .int (nI c), .int (nI g), .int 0, .int 0, .null, .null, .null, .null, .null] [] Z I J = some (some (.int (pwI 1 n)), Z, I, J)) := by
  have i1 : (decide ((0 : Int32) ≤ 0) && decide ((0 : Int32) ≤ 10)) = true := by decide
  have i2 : (decide ((0 : Int32) ≤ 0) && decide ((0 : Int32) ≤ 1)) = true := by decide
  have ha : (10 : Int32) - 0 = 10 := by decide
  have r1 := X7_firstOf (J := J) hZ h hc hg
  refine ⟨fun e => ?_, fun n e hn => ?_⟩
  · simp (decide := true) only [gN1_int, gN1_ref, gN1_null, gN1_long, gTg8_8, gTg8_14, gTg9_9, gTg9_13, gTgA_8, gTgA_9, gTgA_10, gTgA_11, gTgA_13, gTgA_14, gB01_0, gB01_1, gB01_b, List.cons_append, List.nil_append, Option.toList_some, Option.toList_none, Option.bind_some, ↓reduceIte, eq_self, not_true_eq_false, not_false_eq_true, b2i_0, b2i_1, up_eq, up_ne, up_up, up_sort, up_self, fl_at, nI_s, q_127_0, q_127_1, q_127_2, q_127_5, q_127_8, q_127_9, q_127_10, q_127_13, q_127_16, q_127_18, q_127_19, q_127_20, q_127_21, q_127_23, q_127_26, q_127_29, q_127_31, q_127_32, q_127_33, q_127_36, q_127_39, q_127_41, q_127_42, q_127_43, q_127_44, q_127_45, q_127_48, q_127_49, q_127_52, q_127_54, zk_38, zs_38_1, zr_38_1, zs_38_2, zr_38_2, zs_38_3, zr_38_3, zs_38_4, zr_38_4, zs_38_8, zr_38_8, zs_38_17, zr_38_17, zs_38_18, zr_38_18, zs_38_19, zr_38_19, zs_38_22, zr_38_22, zs_38_23, zr_38_23, zs_38_25, zr_38_25, zs_38_26, zr_38_26, zs_38_28, zr_38_28, zs_38_29, zr_38_29, hZ, hm_is hZ h (show 1 ≤ N by omega), hm_g h hc, hm_g h hg, X7_in, i1, i2, r1, e, Bool.true_eq_false]
  · have hN := h.2.1
    have hn9 : n < 10 := by
      rcases hn with ⟨_, q⟩ | ⟨q1, q2⟩
      · omega
      · have := pth_lt h.2.2.1 h.2.1 hc hg q1 q2
        omega
    obtain ⟨r, e1, e2, e3⟩ := odC_ex (odC_0_0 n hn9)
    have wk : g_at 127 64 [.ref 38, .int (nI c), .int (nI g), .int 0, .int 0, .int 1, .int 1, .int (nI g), .null, .null] [] Z I J = g_at 127 98 [.ref 38, .int (nI c), .int (nI g), .int 0, .int 0, .int (pwI 10 n), .int (pwI 10 n), .int (nI c), .null, .null] [] Z I J := by
      rcases hn with ⟨q1, q2⟩ | ⟨q1, q2⟩
      · subst q1 q2
        rw [q_127_64]
        simp (decide := true) only [gN1_int, gN1_ref, gN1_null, gN1_long, gTg8_8, gTg8_14, gTg9_9, gTg9_13, gTgA_8, gTgA_9, gTgA_10, gTgA_11, gTgA_13, gTgA_14, gB01_0, gB01_1, gB01_b, List.cons_append, List.nil_append, Option.toList_some, Option.toList_none, Option.bind_some, ↓reduceIte, eq_self, not_true_eq_false, not_false_eq_true, b2i_0, b2i_1, up_eq, up_ne, up_up, up_sort, up_self, fl_at, nI_s, q_127_66, q_127_67, pwI]
      · have := X7_odds_walk (J := J) hZ h hc (g := nI g) (p := 0) (b := 0) n 0 g hg q1 q2
        rw [ha, Nat.zero_add] at this
        exact this
    simp (decide := true) only [gN1_int, gN1_ref, gN1_null, gN1_long, gTg8_8, gTg8_14, gTg9_9, gTg9_13, gTgA_8, gTgA_9, gTgA_10, gTgA_11, gTgA_13, gTgA_14, gB01_0, gB01_1, gB01_b, List.cons_append, List.nil_append, Option.toList_some, Option.toList_none, Option.bind_some, ↓reduceIte, eq_self, not_true_eq_false, not_false_eq_true, b2i_0, b2i_1, up_eq, up_ne, up_up, up_sort, up_self, fl_at, nI_s, q_127_0, q_127_1, q_127_2, q_127_5, q_127_8, q_127_9, q_127_10, q_127_13, q_127_16, q_127_18, q_127_19, q_127_20, q_127_21, q_127_23, q_127_26, q_127_29, q_127_31, q_127_32, q_127_33, q_127_36, q_127_39, q_127_41, q_127_42, q_127_43, q_127_44, q_127_45, q_127_48, q_127_49, q_127_52, q_127_54, q_127_55, q_127_56, q_127_58, q_127_59, q_127_61, q_127_62, zk_38, zs_38_1, zr_38_1, zs_38_2, zr_38_2, zs_38_3, zr_38_3, zs_38_4, zr_38_4, zs_38_8, zr_38_8, zs_38_17, zr_38_17, zs_38_18, zr_38_18, zs_38_19, zr_38_19, zs_38_22, zr_38_22, zs_38_23, zr_38_23, zs_38_25, zr_38_25, zs_38_26, zr_38_26, zs_38_28, zr_38_28, zs_38_29, zr_38_29, hZ, hm_is hZ h (show 1 ≤ N by omega), hm_g h hc, hm_g h hg, X7_in, i1, i2, r1, e, Bool.true_eq_false]
    rw [wk]
    simp (decide := true) only [gN1_int, gN1_ref, gN1_null, gN1_long, gTg8_8, gTg8_14, gTg9_9, gTg9_13, gTgA_8, gTgA_9, gTgA_10, gTgA_11, gTgA_13, gTgA_14, gB01_0, gB01_1, gB01_b, List.cons_append, List.nil_append, Option.toList_some, Option.toList_none, Option.bind_some, ↓reduceIte, eq_self, not_true_eq_false, not_false_eq_true, b2i_0, b2i_1, up_eq, up_ne, up_up, up_sort, up_self, fl_at, nI_s, q_127_98, q_127_100, q_127_102, q_127_104]
    rw [X7_odds_eg e2 60 _ _ _ e1, e3]
theorem odC_0_1 : ∀ n, n < 10 → odC 10 1 1 n = true := by decide +kernel
theorem X7_odds_0_1 (hZ : St Z) (h : HM I N w sl) {c g : Nat} (hc : c < N) (hg : g < N) : (mtF (I 39) (I 40) (I 41) (I 42) w sl N c g = -1 → g_at 127 0 [.ref 38, .int (nI c), .int (nI g), .int 0, .int 1, .null, .null, .null, .null, .null] [] Z I J = some (some (.int 1), Z, I, J)) ∧ (∀ n, ¬ mtF (I 39) (I 40) (I 41) (I 42) w sl N c g = -1 → ((g = c ∧ n = 0) ∨ (g ≠ c ∧ pth (I 39) (I 40) (I 41) w sl c n g)) → g_at 127 0 [.ref 38, .int (nI c), .int (nI g), .int 0, .int 1, .null, .null, .null, .null, .null] [] Z I J = some (some (.int (pwI 1 n)), Z, I, J)) := by
  have i1 : (decide ((0 : Int32) ≤ 0) && decide ((0 : Int32) ≤ 10)) = true := by decide
  have i2 : (decide ((0 : Int32) ≤ 1) && decide ((1 : Int32) ≤ 1)) = true := by decide
  have ha : (10 : Int32) - 0 = 10 := by decide
  have r1 := X7_firstOf (J := J) hZ h hc hg
  refine ⟨fun e => ?_, fun n e hn => ?_⟩
  · simp (decide := true) only [gN1_int, gN1_ref, gN1_null, gN1_long, gTg8_8, gTg8_14, gTg9_9, gTg9_13, gTgA_8, gTgA_9, gTgA_10, gTgA_11, gTgA_13, gTgA_14, gB01_0, gB01_1, gB01_b, List.cons_append, List.nil_append, Option.toList_some, Option.toList_none, Option.bind_some, ↓reduceIte, eq_self, not_true_eq_false, not_false_eq_true, b2i_0, b2i_1, up_eq, up_ne, up_up, up_sort, up_self, fl_at, nI_s, q_127_0, q_127_1, q_127_2, q_127_5, q_127_8, q_127_9, q_127_10, q_127_13, q_127_16, q_127_18, q_127_19, q_127_20, q_127_21, q_127_23, q_127_26, q_127_29, q_127_31, q_127_32, q_127_33, q_127_36, q_127_39, q_127_41, q_127_42, q_127_43, q_127_44, q_127_45, q_127_48, q_127_49, q_127_52, q_127_54, zk_38, zs_38_1, zr_38_1, zs_38_2, zr_38_2, zs_38_3, zr_38_3, zs_38_4, zr_38_4, zs_38_8, zr_38_8, zs_38_17, zr_38_17, zs_38_18, zr_38_18, zs_38_19, zr_38_19, zs_38_22, zr_38_22, zs_38_23, zr_38_23, zs_38_25, zr_38_25, zs_38_26, zr_38_26, zs_38_28, zr_38_28, zs_38_29, zr_38_29, hZ, hm_is hZ h (show 1 ≤ N by omega), hm_g h hc, hm_g h hg, X7_in, i1, i2, r1, e, Bool.true_eq_false]
  · have hN := h.2.1
    have hn9 : n < 10 := by
      rcases hn with ⟨_, q⟩ | ⟨q1, q2⟩
      · omega
      · have := pth_lt h.2.2.1 h.2.1 hc hg q1 q2
        omega
    obtain ⟨r, e1, e2, e3⟩ := odC_ex (odC_0_1 n hn9)
    have wk : g_at 127 64 [.ref 38, .int (nI c), .int (nI g), .int 0, .int 1, .int 1, .int 1, .int (nI g), .null, .null] [] Z I J = g_at 127 98 [.ref 38, .int (nI c), .int (nI g), .int 0, .int 1, .int (pwI 10 n), .int (pwI 10 n), .int (nI c), .null, .null] [] Z I J := by
      rcases hn with ⟨q1, q2⟩ | ⟨q1, q2⟩
      · subst q1 q2
        rw [q_127_64]
        simp (decide := true) only [gN1_int, gN1_ref, gN1_null, gN1_long, gTg8_8, gTg8_14, gTg9_9, gTg9_13, gTgA_8, gTgA_9, gTgA_10, gTgA_11, gTgA_13, gTgA_14, gB01_0, gB01_1, gB01_b, List.cons_append, List.nil_append, Option.toList_some, Option.toList_none, Option.bind_some, ↓reduceIte, eq_self, not_true_eq_false, not_false_eq_true, b2i_0, b2i_1, up_eq, up_ne, up_up, up_sort, up_self, fl_at, nI_s, q_127_66, q_127_67, pwI]
      · have := X7_odds_walk (J := J) hZ h hc (g := nI g) (p := 0) (b := 1) n 0 g hg q1 q2
        rw [ha, Nat.zero_add] at this
        exact this
    simp (decide := true) only [gN1_int, gN1_ref, gN1_null, gN1_long, gTg8_8, gTg8_14, gTg9_9, gTg9_13, gTgA_8, gTgA_9, gTgA_10, gTgA_11, gTgA_13, gTgA_14, gB01_0, gB01_1, gB01_b, List.cons_append, List.nil_append, Option.toList_some, Option.toList_none, Option.bind_some, ↓reduceIte, eq_self, not_true_eq_false, not_false_eq_true, b2i_0, b2i_1, up_eq, up_ne, up_up, up_sort, up_self, fl_at, nI_s, q_127_0, q_127_1, q_127_2, q_127_5, q_127_8, q_127_9, q_127_10, q_127_13, q_127_16, q_127_18, q_127_19, q_127_20, q_127_21, q_127_23, q_127_26, q_127_29, q_127_31, q_127_32, q_127_33, q_127_36, q_127_39, q_127_41, q_127_42, q_127_43, q_127_44, q_127_45, q_127_48, q_127_49, q_127_52, q_127_54, q_127_55, q_127_56, q_127_58, q_127_59, q_127_61, q_127_62, zk_38, zs_38_1, zr_38_1, zs_38_2, zr_38_2, zs_38_3, zr_38_3, zs_38_4, zr_38_4, zs_38_8, zr_38_8, zs_38_17, zr_38_17, zs_38_18, zr_38_18, zs_38_19, zr_38_19, zs_38_22, zr_38_22, zs_38_23, zr_38_23, zs_38_25, zr_38_25, zs_38_26, zr_38_26, zs_38_28, zr_38_28, zs_38_29, zr_38_29, hZ, hm_is hZ h (show 1 ≤ N by omega), hm_g h hc, hm_g h hg, X7_in, i1, i2, r1, e, Bool.true_eq_false]
    rw [wk]
    simp (decide := true) only [gN1_int, gN1_ref, gN1_null, gN1_long, gTg8_8, gTg8_14, gTg9_9, gTg9_13, gTgA_8, gTgA_9, gTgA_10, gTgA_11, gTgA_13, gTgA_14, gB01_0, gB01_1, gB01_b, List.cons_append, List.nil_append, Option.toList_some, Option.toList_none, Option.bind_some, ↓reduceIte, eq_self, not_true_eq_false, not_false_eq_true, b2i_0, b2i_1, up_eq, up_ne, up_up, up_sort, up_self, fl_at, nI_s, q_127_98, q_127_100, q_127_102, q_127_104]
    rw [X7_odds_eg e2 60 _ _ _ e1, e3]
theorem odC_1_0 : ∀ n, n < 10 → odC 9 0 9 n = true := by decide +kernel
theorem X7_odds_1_0 (hZ : St Z) (h : HM I N w sl) {c g : Nat} (hc : c < N) (hg : g < N) : (mtF (I 39) (I 40) (I 41) (I 42) w sl N c g = -1 → g_at 127 0 [.ref 38, .int (nI c), .int (nI g), .int 1, .int 0, .null, .null, .null, .null, .null] [] Z I J = some (some (.int 0), Z, I, J)) ∧ (∀ n, ¬ mtF (I 39) (I 40) (I 41) (I 42) w sl N c g = -1 → ((g = c ∧ n = 0) ∨ (g ≠ c ∧ pth (I 39) (I 40) (I 41) w sl c n g)) → g_at 127 0 [.ref 38, .int (nI c), .int (nI g), .int 1, .int 0, .null, .null, .null, .null, .null] [] Z I J = some (some (.int (pwI 9 n)), Z, I, J)) := by
  have i1 : (decide ((0 : Int32) ≤ 1) && decide ((1 : Int32) ≤ 10)) = true := by decide
  have i2 : (decide ((0 : Int32) ≤ 0) && decide ((0 : Int32) ≤ 1)) = true := by decide
  have ha : (10 : Int32) - 1 = 9 := by decide
  have r1 := X7_firstOf (J := J) hZ h hc hg
  refine ⟨fun e => ?_, fun n e hn => ?_⟩
  · simp (decide := true) only [gN1_int, gN1_ref, gN1_null, gN1_long, gTg8_8, gTg8_14, gTg9_9, gTg9_13, gTgA_8, gTgA_9, gTgA_10, gTgA_11, gTgA_13, gTgA_14, gB01_0, gB01_1, gB01_b, List.cons_append, List.nil_append, Option.toList_some, Option.toList_none, Option.bind_some, ↓reduceIte, eq_self, not_true_eq_false, not_false_eq_true, b2i_0, b2i_1, up_eq, up_ne, up_up, up_sort, up_self, fl_at, nI_s, q_127_0, q_127_1, q_127_2, q_127_5, q_127_8, q_127_9, q_127_10, q_127_13, q_127_16, q_127_18, q_127_19, q_127_20, q_127_21, q_127_23, q_127_26, q_127_29, q_127_31, q_127_32, q_127_33, q_127_36, q_127_39, q_127_41, q_127_42, q_127_43, q_127_44, q_127_45, q_127_48, q_127_49, q_127_52, q_127_54, zk_38, zs_38_1, zr_38_1, zs_38_2, zr_38_2, zs_38_3, zr_38_3, zs_38_4, zr_38_4, zs_38_8, zr_38_8, zs_38_17, zr_38_17, zs_38_18, zr_38_18, zs_38_19, zr_38_19, zs_38_22, zr_38_22, zs_38_23, zr_38_23, zs_38_25, zr_38_25, zs_38_26, zr_38_26, zs_38_28, zr_38_28, zs_38_29, zr_38_29, hZ, hm_is hZ h (show 1 ≤ N by omega), hm_g h hc, hm_g h hg, X7_in, i1, i2, r1, e, Bool.true_eq_false]
  · have hN := h.2.1
    have hn9 : n < 10 := by
      rcases hn with ⟨_, q⟩ | ⟨q1, q2⟩
      · omega
      · have := pth_lt h.2.2.1 h.2.1 hc hg q1 q2
        omega
    obtain ⟨r, e1, e2, e3⟩ := odC_ex (odC_1_0 n hn9)
    have wk : g_at 127 64 [.ref 38, .int (nI c), .int (nI g), .int 1, .int 0, .int 1, .int 1, .int (nI g), .null, .null] [] Z I J = g_at 127 98 [.ref 38, .int (nI c), .int (nI g), .int 1, .int 0, .int (pwI 9 n), .int (pwI 10 n), .int (nI c), .null, .null] [] Z I J := by
      rcases hn with ⟨q1, q2⟩ | ⟨q1, q2⟩
      · subst q1 q2
        rw [q_127_64]
        simp (decide := true) only [gN1_int, gN1_ref, gN1_null, gN1_long, gTg8_8, gTg8_14, gTg9_9, gTg9_13, gTgA_8, gTgA_9, gTgA_10, gTgA_11, gTgA_13, gTgA_14, gB01_0, gB01_1, gB01_b, List.cons_append, List.nil_append, Option.toList_some, Option.toList_none, Option.bind_some, ↓reduceIte, eq_self, not_true_eq_false, not_false_eq_true, b2i_0, b2i_1, up_eq, up_ne, up_up, up_sort, up_self, fl_at, nI_s, q_127_66, q_127_67, pwI]
      · have := X7_odds_walk (J := J) hZ h hc (g := nI g) (p := 1) (b := 0) n 0 g hg q1 q2
        rw [ha, Nat.zero_add] at this
        exact this
    simp (decide := true) only [gN1_int, gN1_ref, gN1_null, gN1_long, gTg8_8, gTg8_14, gTg9_9, gTg9_13, gTgA_8, gTgA_9, gTgA_10, gTgA_11, gTgA_13, gTgA_14, gB01_0, gB01_1, gB01_b, List.cons_append, List.nil_append, Option.toList_some, Option.toList_none, Option.bind_some, ↓reduceIte, eq_self, not_true_eq_false, not_false_eq_true, b2i_0, b2i_1, up_eq, up_ne, up_up, up_sort, up_self, fl_at, nI_s, q_127_0, q_127_1, q_127_2, q_127_5, q_127_8, q_127_9, q_127_10, q_127_13, q_127_16, q_127_18, q_127_19, q_127_20, q_127_21, q_127_23, q_127_26, q_127_29, q_127_31, q_127_32, q_127_33, q_127_36, q_127_39, q_127_41, q_127_42, q_127_43, q_127_44, q_127_45, q_127_48, q_127_49, q_127_52, q_127_54, q_127_55, q_127_56, q_127_58, q_127_59, q_127_61, q_127_62, zk_38, zs_38_1, zr_38_1, zs_38_2, zr_38_2, zs_38_3, zr_38_3, zs_38_4, zr_38_4, zs_38_8, zr_38_8, zs_38_17, zr_38_17, zs_38_18, zr_38_18, zs_38_19, zr_38_19, zs_38_22, zr_38_22, zs_38_23, zr_38_23, zs_38_25, zr_38_25, zs_38_26, zr_38_26, zs_38_28, zr_38_28, zs_38_29, zr_38_29, hZ, hm_is hZ h (show 1 ≤ N by omega), hm_g h hc, hm_g h hg, X7_in, i1, i2, r1, e, Bool.true_eq_false]
    rw [wk]
    simp (decide := true) only [gN1_int, gN1_ref, gN1_null, gN1_long, gTg8_8, gTg8_14, gTg9_9, gTg9_13, gTgA_8, gTgA_9, gTgA_10, gTgA_11, gTgA_13, gTgA_14, gB01_0, gB01_1, gB01_b, List.cons_append, List.nil_append, Option.toList_some, Option.toList_none, Option.bind_some, ↓reduceIte, eq_self, not_true_eq_false, not_false_eq_true, b2i_0, b2i_1, up_eq, up_ne, up_up, up_sort, up_self, fl_at, nI_s, q_127_98, q_127_100, q_127_102, q_127_104]
    rw [X7_odds_eg e2 60 _ _ _ e1, e3]
theorem odC_1_1 : ∀ n, n < 10 → odC 9 1 10 n = true := by decide +kernel
theorem X7_odds_1_1 (hZ : St Z) (h : HM I N w sl) {c g : Nat} (hc : c < N) (hg : g < N) : (mtF (I 39) (I 40) (I 41) (I 42) w sl N c g = -1 → g_at 127 0 [.ref 38, .int (nI c), .int (nI g), .int 1, .int 1, .null, .null, .null, .null, .null] [] Z I J = some (some (.int 1), Z, I, J)) ∧ (∀ n, ¬ mtF (I 39) (I 40) (I 41) (I 42) w sl N c g = -1 → ((g = c ∧ n = 0) ∨ (g ≠ c ∧ pth (I 39) (I 40) (I 41) w sl c n g)) → g_at 127 0 [.ref 38, .int (nI c), .int (nI g), .int 1, .int 1, .null, .null, .null, .null, .null] [] Z I J = some (some (.int (pwI 10 n)), Z, I, J)) := by
  have i1 : (decide ((0 : Int32) ≤ 1) && decide ((1 : Int32) ≤ 10)) = true := by decide
  have i2 : (decide ((0 : Int32) ≤ 1) && decide ((1 : Int32) ≤ 1)) = true := by decide
  have ha : (10 : Int32) - 1 = 9 := by decide
  have r1 := X7_firstOf (J := J) hZ h hc hg
  refine ⟨fun e => ?_, fun n e hn => ?_⟩
  · simp (decide := true) only [gN1_int, gN1_ref, gN1_null, gN1_long, gTg8_8, gTg8_14, gTg9_9, gTg9_13, gTgA_8, gTgA_9, gTgA_10, gTgA_11, gTgA_13, gTgA_14, gB01_0, gB01_1, gB01_b, List.cons_append, List.nil_append, Option.toList_some, Option.toList_none, Option.bind_some, ↓reduceIte, eq_self, not_true_eq_false, not_false_eq_true, b2i_0, b2i_1, up_eq, up_ne, up_up, up_sort, up_self, fl_at, nI_s, q_127_0, q_127_1, q_127_2, q_127_5, q_127_8, q_127_9, q_127_10, q_127_13, q_127_16, q_127_18, q_127_19, q_127_20, q_127_21, q_127_23, q_127_26, q_127_29, q_127_31, q_127_32, q_127_33, q_127_36, q_127_39, q_127_41, q_127_42, q_127_43, q_127_44, q_127_45, q_127_48, q_127_49, q_127_52, q_127_54, zk_38, zs_38_1, zr_38_1, zs_38_2, zr_38_2, zs_38_3, zr_38_3, zs_38_4, zr_38_4, zs_38_8, zr_38_8, zs_38_17, zr_38_17, zs_38_18, zr_38_18, zs_38_19, zr_38_19, zs_38_22, zr_38_22, zs_38_23, zr_38_23, zs_38_25, zr_38_25, zs_38_26, zr_38_26, zs_38_28, zr_38_28, zs_38_29, zr_38_29, hZ, hm_is hZ h (show 1 ≤ N by omega), hm_g h hc, hm_g h hg, X7_in, i1, i2, r1, e, Bool.true_eq_false]
  · have hN := h.2.1
    have hn9 : n < 10 := by
      rcases hn with ⟨_, q⟩ | ⟨q1, q2⟩
      · omega
      · have := pth_lt h.2.2.1 h.2.1 hc hg q1 q2
        omega
    obtain ⟨r, e1, e2, e3⟩ := odC_ex (odC_1_1 n hn9)
    have wk : g_at 127 64 [.ref 38, .int (nI c), .int (nI g), .int 1, .int 1, .int 1, .int 1, .int (nI g), .null, .null] [] Z I J = g_at 127 98 [.ref 38, .int (nI c), .int (nI g), .int 1, .int 1, .int (pwI 9 n), .int (pwI 10 n), .int (nI c), .null, .null] [] Z I J := by
      rcases hn with ⟨q1, q2⟩ | ⟨q1, q2⟩
      · subst q1 q2
        rw [q_127_64]
        simp (decide := true) only [gN1_int, gN1_ref, gN1_null, gN1_long, gTg8_8, gTg8_14, gTg9_9, gTg9_13, gTgA_8, gTgA_9, gTgA_10, gTgA_11, gTgA_13, gTgA_14, gB01_0, gB01_1, gB01_b, List.cons_append, List.nil_append, Option.toList_some, Option.toList_none, Option.bind_some, ↓reduceIte, eq_self, not_true_eq_false, not_false_eq_true, b2i_0, b2i_1, up_eq, up_ne, up_up, up_sort, up_self, fl_at, nI_s, q_127_66, q_127_67, pwI]
      · have := X7_odds_walk (J := J) hZ h hc (g := nI g) (p := 1) (b := 1) n 0 g hg q1 q2
        rw [ha, Nat.zero_add] at this
        exact this
    simp (decide := true) only [gN1_int, gN1_ref, gN1_null, gN1_long, gTg8_8, gTg8_14, gTg9_9, gTg9_13, gTgA_8, gTgA_9, gTgA_10, gTgA_11, gTgA_13, gTgA_14, gB01_0, gB01_1, gB01_b, List.cons_append, List.nil_append, Option.toList_some, Option.toList_none, Option.bind_some, ↓reduceIte, eq_self, not_true_eq_false, not_false_eq_true, b2i_0, b2i_1, up_eq, up_ne, up_up, up_sort, up_self, fl_at, nI_s, q_127_0, q_127_1, q_127_2, q_127_5, q_127_8, q_127_9, q_127_10, q_127_13, q_127_16, q_127_18, q_127_19, q_127_20, q_127_21, q_127_23, q_127_26, q_127_29, q_127_31, q_127_32, q_127_33, q_127_36, q_127_39, q_127_41, q_127_42, q_127_43, q_127_44, q_127_45, q_127_48, q_127_49, q_127_52, q_127_54, q_127_55, q_127_56, q_127_58, q_127_59, q_127_61, q_127_62, zk_38, zs_38_1, zr_38_1, zs_38_2, zr_38_2, zs_38_3, zr_38_3, zs_38_4, zr_38_4, zs_38_8, zr_38_8, zs_38_17, zr_38_17, zs_38_18, zr_38_18, zs_38_19, zr_38_19, zs_38_22, zr_38_22, zs_38_23, zr_38_23, zs_38_25, zr_38_25, zs_38_26, zr_38_26, zs_38_28, zr_38_28, zs_38_29, zr_38_29, hZ, hm_is hZ h (show 1 ≤ N by omega), hm_g h hc, hm_g h hg, X7_in, i1, i2, r1, e, Bool.true_eq_false]
    rw [wk]
    simp (decide := true) only [gN1_int, gN1_ref, gN1_null, gN1_long, gTg8_8, gTg8_14, gTg9_9, gTg9_13, gTgA_8, gTgA_9, gTgA_10, gTgA_11, gTgA_13, gTgA_14, gB01_0, gB01_1, gB01_b, List.cons_append, List.nil_append, Option.toList_some, Option.toList_none, Option.bind_some, ↓reduceIte, eq_self, not_true_eq_false, not_false_eq_true, b2i_0, b2i_1, up_eq, up_ne, up_up, up_sort, up_self, fl_at, nI_s, q_127_98, q_127_100, q_127_102, q_127_104]
    rw [X7_odds_eg e2 60 _ _ _ e1, e3]
theorem odC_2_0 : ∀ n, n < 10 → odC 8 0 4 n = true := by decide +kernel
theorem X7_odds_2_0 (hZ : St Z) (h : HM I N w sl) {c g : Nat} (hc : c < N) (hg : g < N) : (mtF (I 39) (I 40) (I 41) (I 42) w sl N c g = -1 → g_at 127 0 [.ref 38, .int (nI c), .int (nI g), .int 2, .int 0, .null, .null, .null, .null, .null] [] Z I J = some (some (.int 0), Z, I, J)) ∧ (∀ n, ¬ mtF (I 39) (I 40) (I 41) (I 42) w sl N c g = -1 → ((g = c ∧ n = 0) ∨ (g ≠ c ∧ pth (I 39) (I 40) (I 41) w sl c n g)) → g_at 127 0 [.ref 38, .int (nI c), .int (nI g), .int 2, .int 0, .null, .null, .null, .null, .null] [] Z I J = some (some (.int (pwI 4 n)), Z, I, J)) := by
  have i1 : (decide ((0 : Int32) ≤ 2) && decide ((2 : Int32) ≤ 10)) = true := by decide
  have i2 : (decide ((0 : Int32) ≤ 0) && decide ((0 : Int32) ≤ 1)) = true := by decide
  have ha : (10 : Int32) - 2 = 8 := by decide
  have r1 := X7_firstOf (J := J) hZ h hc hg
  refine ⟨fun e => ?_, fun n e hn => ?_⟩
  · simp (decide := true) only [gN1_int, gN1_ref, gN1_null, gN1_long, gTg8_8, gTg8_14, gTg9_9, gTg9_13, gTgA_8, gTgA_9, gTgA_10, gTgA_11, gTgA_13, gTgA_14, gB01_0, gB01_1, gB01_b, List.cons_append, List.nil_append, Option.toList_some, Option.toList_none, Option.bind_some, ↓reduceIte, eq_self, not_true_eq_false, not_false_eq_true, b2i_0, b2i_1, up_eq, up_ne, up_up, up_sort, up_self, fl_at, nI_s, q_127_0, q_127_1, q_127_2, q_127_5, q_127_8, q_127_9, q_127_10, q_127_13, q_127_16, q_127_18, q_127_19, q_127_20, q_127_21, q_127_23, q_127_26, q_127_29, q_127_31, q_127_32, q_127_33, q_127_36, q_127_39, q_127_41, q_127_42, q_127_43, q_127_44, q_127_45, q_127_48, q_127_49, q_127_52, q_127_54, zk_38, zs_38_1, zr_38_1, zs_38_2, zr_38_2, zs_38_3, zr_38_3, zs_38_4, zr_38_4, zs_38_8, zr_38_8, zs_38_17, zr_38_17, zs_38_18, zr_38_18, zs_38_19, zr_38_19, zs_38_22, zr_38_22, zs_38_23, zr_38_23, zs_38_25, zr_38_25, zs_38_26, zr_38_26, zs_38_28, zr_38_28, zs_38_29, zr_38_29, hZ, hm_is hZ h (show 1 ≤ N by omega), hm_g h hc, hm_g h hg, X7_in, i1, i2, r1, e, Bool.true_eq_false]
  · have hN := h.2.1
    have hn9 : n < 10 := by
      rcases hn with ⟨_, q⟩ | ⟨q1, q2⟩
      · omega
      · have := pth_lt h.2.2.1 h.2.1 hc hg q1 q2
        omega
    obtain ⟨r, e1, e2, e3⟩ := odC_ex (odC_2_0 n hn9)
    have wk : g_at 127 64 [.ref 38, .int (nI c), .int (nI g), .int 2, .int 0, .int 1, .int 1, .int (nI g), .null, .null] [] Z I J = g_at 127 98 [.ref 38, .int (nI c), .int (nI g), .int 2, .int 0, .int (pwI 8 n), .int (pwI 10 n), .int (nI c), .null, .null] [] Z I J := by
      rcases hn with ⟨q1, q2⟩ | ⟨q1, q2⟩
      · subst q1 q2
        rw [q_127_64]
        simp (decide := true) only [gN1_int, gN1_ref, gN1_null, gN1_long, gTg8_8, gTg8_14, gTg9_9, gTg9_13, gTgA_8, gTgA_9, gTgA_10, gTgA_11, gTgA_13, gTgA_14, gB01_0, gB01_1, gB01_b, List.cons_append, List.nil_append, Option.toList_some, Option.toList_none, Option.bind_some, ↓reduceIte, eq_self, not_true_eq_false, not_false_eq_true, b2i_0, b2i_1, up_eq, up_ne, up_up, up_sort, up_self, fl_at, nI_s, q_127_66, q_127_67, pwI]
      · have := X7_odds_walk (J := J) hZ h hc (g := nI g) (p := 2) (b := 0) n 0 g hg q1 q2
        rw [ha, Nat.zero_add] at this
        exact this
    simp (decide := true) only [gN1_int, gN1_ref, gN1_null, gN1_long, gTg8_8, gTg8_14, gTg9_9, gTg9_13, gTgA_8, gTgA_9, gTgA_10, gTgA_11, gTgA_13, gTgA_14, gB01_0, gB01_1, gB01_b, List.cons_append, List.nil_append, Option.toList_some, Option.toList_none, Option.bind_some, ↓reduceIte, eq_self, not_true_eq_false, not_false_eq_true, b2i_0, b2i_1, up_eq, up_ne, up_up, up_sort, up_self, fl_at, nI_s, q_127_0, q_127_1, q_127_2, q_127_5, q_127_8, q_127_9, q_127_10, q_127_13, q_127_16, q_127_18, q_127_19, q_127_20, q_127_21, q_127_23, q_127_26, q_127_29, q_127_31, q_127_32, q_127_33, q_127_36, q_127_39, q_127_41, q_127_42, q_127_43, q_127_44, q_127_45, q_127_48, q_127_49, q_127_52, q_127_54, q_127_55, q_127_56, q_127_58, q_127_59, q_127_61, q_127_62, zk_38, zs_38_1, zr_38_1, zs_38_2, zr_38_2, zs_38_3, zr_38_3, zs_38_4, zr_38_4, zs_38_8, zr_38_8, zs_38_17, zr_38_17, zs_38_18, zr_38_18, zs_38_19, zr_38_19, zs_38_22, zr_38_22, zs_38_23, zr_38_23, zs_38_25, zr_38_25, zs_38_26, zr_38_26, zs_38_28, zr_38_28, zs_38_29, zr_38_29, hZ, hm_is hZ h (show 1 ≤ N by omega), hm_g h hc, hm_g h hg, X7_in, i1, i2, r1, e, Bool.true_eq_false]
    rw [wk]
    simp (decide := true) only [gN1_int, gN1_ref, gN1_null, gN1_long, gTg8_8, gTg8_14, gTg9_9, gTg9_13, gTgA_8, gTgA_9, gTgA_10, gTgA_11, gTgA_13, gTgA_14, gB01_0, gB01_1, gB01_b, List.cons_append, List.nil_append, Option.toList_some, Option.toList_none, Option.bind_some, ↓reduceIte, eq_self, not_true_eq_false, not_false_eq_true, b2i_0, b2i_1, up_eq, up_ne, up_up, up_sort, up_self, fl_at, nI_s, q_127_98, q_127_100, q_127_102, q_127_104]
    rw [X7_odds_eg e2 60 _ _ _ e1, e3]
theorem odC_2_1 : ∀ n, n < 10 → odC 8 1 5 n = true := by decide +kernel
theorem X7_odds_2_1 (hZ : St Z) (h : HM I N w sl) {c g : Nat} (hc : c < N) (hg : g < N) : (mtF (I 39) (I 40) (I 41) (I 42) w sl N c g = -1 → g_at 127 0 [.ref 38, .int (nI c), .int (nI g), .int 2, .int 1, .null, .null, .null, .null, .null] [] Z I J = some (some (.int 1), Z, I, J)) ∧ (∀ n, ¬ mtF (I 39) (I 40) (I 41) (I 42) w sl N c g = -1 → ((g = c ∧ n = 0) ∨ (g ≠ c ∧ pth (I 39) (I 40) (I 41) w sl c n g)) → g_at 127 0 [.ref 38, .int (nI c), .int (nI g), .int 2, .int 1, .null, .null, .null, .null, .null] [] Z I J = some (some (.int (pwI 5 n)), Z, I, J)) := by
  have i1 : (decide ((0 : Int32) ≤ 2) && decide ((2 : Int32) ≤ 10)) = true := by decide
  have i2 : (decide ((0 : Int32) ≤ 1) && decide ((1 : Int32) ≤ 1)) = true := by decide
  have ha : (10 : Int32) - 2 = 8 := by decide
  have r1 := X7_firstOf (J := J) hZ h hc hg
  refine ⟨fun e => ?_, fun n e hn => ?_⟩
  · simp (decide := true) only [gN1_int, gN1_ref, gN1_null, gN1_long, gTg8_8, gTg8_14, gTg9_9, gTg9_13, gTgA_8, gTgA_9, gTgA_10, gTgA_11, gTgA_13, gTgA_14, gB01_0, gB01_1, gB01_b, List.cons_append, List.nil_append, Option.toList_some, Option.toList_none, Option.bind_some, ↓reduceIte, eq_self, not_true_eq_false, not_false_eq_true, b2i_0, b2i_1, up_eq, up_ne, up_up, up_sort, up_self, fl_at, nI_s, q_127_0, q_127_1, q_127_2, q_127_5, q_127_8, q_127_9, q_127_10, q_127_13, q_127_16, q_127_18, q_127_19, q_127_20, q_127_21, q_127_23, q_127_26, q_127_29, q_127_31, q_127_32, q_127_33, q_127_36, q_127_39, q_127_41, q_127_42, q_127_43, q_127_44, q_127_45, q_127_48, q_127_49, q_127_52, q_127_54, zk_38, zs_38_1, zr_38_1, zs_38_2, zr_38_2, zs_38_3, zr_38_3, zs_38_4, zr_38_4, zs_38_8, zr_38_8, zs_38_17, zr_38_17, zs_38_18, zr_38_18, zs_38_19, zr_38_19, zs_38_22, zr_38_22, zs_38_23, zr_38_23, zs_38_25, zr_38_25, zs_38_26, zr_38_26, zs_38_28, zr_38_28, zs_38_29, zr_38_29, hZ, hm_is hZ h (show 1 ≤ N by omega), hm_g h hc, hm_g h hg, X7_in, i1, i2, r1, e, Bool.true_eq_false]
  · have hN := h.2.1
    have hn9 : n < 10 := by
      rcases hn with ⟨_, q⟩ | ⟨q1, q2⟩
      · omega
      · have := pth_lt h.2.2.1 h.2.1 hc hg q1 q2
        omega
    obtain ⟨r, e1, e2, e3⟩ := odC_ex (odC_2_1 n hn9)
    have wk : g_at 127 64 [.ref 38, .int (nI c), .int (nI g), .int 2, .int 1, .int 1, .int 1, .int (nI g), .null, .null] [] Z I J = g_at 127 98 [.ref 38, .int (nI c), .int (nI g), .int 2, .int 1, .int (pwI 8 n), .int (pwI 10 n), .int (nI c), .null, .null] [] Z I J := by
      rcases hn with ⟨q1, q2⟩ | ⟨q1, q2⟩
      · subst q1 q2
        rw [q_127_64]
        simp (decide := true) only [gN1_int, gN1_ref, gN1_null, gN1_long, gTg8_8, gTg8_14, gTg9_9, gTg9_13, gTgA_8, gTgA_9, gTgA_10, gTgA_11, gTgA_13, gTgA_14, gB01_0, gB01_1, gB01_b, List.cons_append, List.nil_append, Option.toList_some, Option.toList_none, Option.bind_some, ↓reduceIte, eq_self, not_true_eq_false, not_false_eq_true, b2i_0, b2i_1, up_eq, up_ne, up_up, up_sort, up_self, fl_at, nI_s, q_127_66, q_127_67, pwI]
      · have := X7_odds_walk (J := J) hZ h hc (g := nI g) (p := 2) (b := 1) n 0 g hg q1 q2
        rw [ha, Nat.zero_add] at this
        exact this
    simp (decide := true) only [gN1_int, gN1_ref, gN1_null, gN1_long, gTg8_8, gTg8_14, gTg9_9, gTg9_13, gTgA_8, gTgA_9, gTgA_10, gTgA_11, gTgA_13, gTgA_14, gB01_0, gB01_1, gB01_b, List.cons_append, List.nil_append, Option.toList_some, Option.toList_none, Option.bind_some, ↓reduceIte, eq_self, not_true_eq_false, not_false_eq_true, b2i_0, b2i_1, up_eq, up_ne, up_up, up_sort, up_self, fl_at, nI_s, q_127_0, q_127_1, q_127_2, q_127_5, q_127_8, q_127_9, q_127_10, q_127_13, q_127_16, q_127_18, q_127_19, q_127_20, q_127_21, q_127_23, q_127_26, q_127_29, q_127_31, q_127_32, q_127_33, q_127_36, q_127_39, q_127_41, q_127_42, q_127_43, q_127_44, q_127_45, q_127_48, q_127_49, q_127_52, q_127_54, q_127_55, q_127_56, q_127_58, q_127_59, q_127_61, q_127_62, zk_38, zs_38_1, zr_38_1, zs_38_2, zr_38_2, zs_38_3, zr_38_3, zs_38_4, zr_38_4, zs_38_8, zr_38_8, zs_38_17, zr_38_17, zs_38_18, zr_38_18, zs_38_19, zr_38_19, zs_38_22, zr_38_22, zs_38_23, zr_38_23, zs_38_25, zr_38_25, zs_38_26, zr_38_26, zs_38_28, zr_38_28, zs_38_29, zr_38_29, hZ, hm_is hZ h (show 1 ≤ N by omega), hm_g h hc, hm_g h hg, X7_in, i1, i2, r1, e, Bool.true_eq_false]
    rw [wk]
    simp (decide := true) only [gN1_int, gN1_ref, gN1_null, gN1_long, gTg8_8, gTg8_14, gTg9_9, gTg9_13, gTgA_8, gTgA_9, gTgA_10, gTgA_11, gTgA_13, gTgA_14, gB01_0, gB01_1, gB01_b, List.cons_append, List.nil_append, Option.toList_some, Option.toList_none, Option.bind_some, ↓reduceIte, eq_self, not_true_eq_false, not_false_eq_true, b2i_0, b2i_1, up_eq, up_ne, up_up, up_sort, up_self, fl_at, nI_s, q_127_98, q_127_100, q_127_102, q_127_104]
    rw [X7_odds_eg e2 60 _ _ _ e1, e3]
theorem odC_3_0 : ∀ n, n < 10 → odC 7 0 7 n = true := by decide +kernel
theorem X7_odds_3_0 (hZ : St Z) (h : HM I N w sl) {c g : Nat} (hc : c < N) (hg : g < N) : (mtF (I 39) (I 40) (I 41) (I 42) w sl N c g = -1 → g_at 127 0 [.ref 38, .int (nI c), .int (nI g), .int 3, .int 0, .null, .null, .null, .null, .null] [] Z I J = some (some (.int 0), Z, I, J)) ∧ (∀ n, ¬ mtF (I 39) (I 40) (I 41) (I 42) w sl N c g = -1 → ((g = c ∧ n = 0) ∨ (g ≠ c ∧ pth (I 39) (I 40) (I 41) w sl c n g)) → g_at 127 0 [.ref 38, .int (nI c), .int (nI g), .int 3, .int 0, .null, .null, .null, .null, .null] [] Z I J = some (some (.int (pwI 7 n)), Z, I, J)) := by
  have i1 : (decide ((0 : Int32) ≤ 3) && decide ((3 : Int32) ≤ 10)) = true := by decide
  have i2 : (decide ((0 : Int32) ≤ 0) && decide ((0 : Int32) ≤ 1)) = true := by decide
  have ha : (10 : Int32) - 3 = 7 := by decide
  have r1 := X7_firstOf (J := J) hZ h hc hg
  refine ⟨fun e => ?_, fun n e hn => ?_⟩
  · simp (decide := true) only [gN1_int, gN1_ref, gN1_null, gN1_long, gTg8_8, gTg8_14, gTg9_9, gTg9_13, gTgA_8, gTgA_9, gTgA_10, gTgA_11, gTgA_13, gTgA_14, gB01_0, gB01_1, gB01_b, List.cons_append, List.nil_append, Option.toList_some, Option.toList_none, Option.bind_some, ↓reduceIte, eq_self, not_true_eq_false, not_false_eq_true, b2i_0, b2i_1, up_eq, up_ne, up_up, up_sort, up_self, fl_at, nI_s, q_127_0, q_127_1, q_127_2, q_127_5, q_127_8, q_127_9, q_127_10, q_127_13, q_127_16, q_127_18, q_127_19, q_127_20, q_127_21, q_127_23, q_127_26, q_127_29, q_127_31, q_127_32, q_127_33, q_127_36, q_127_39, q_127_41, q_127_42, q_127_43, q_127_44, q_127_45, q_127_48, q_127_49, q_127_52, q_127_54, zk_38, zs_38_1, zr_38_1, zs_38_2, zr_38_2, zs_38_3, zr_38_3, zs_38_4, zr_38_4, zs_38_8, zr_38_8, zs_38_17, zr_38_17, zs_38_18, zr_38_18, zs_38_19, zr_38_19, zs_38_22, zr_38_22, zs_38_23, zr_38_23, zs_38_25, zr_38_25, zs_38_26, zr_38_26, zs_38_28, zr_38_28, zs_38_29, zr_38_29, hZ, hm_is hZ h (show 1 ≤ N by omega), hm_g h hc, hm_g h hg, X7_in, i1, i2, r1, e, Bool.true_eq_false]
  · have hN := h.2.1
    have hn9 : n < 10 := by
      rcases hn with ⟨_, q⟩ | ⟨q1, q2⟩
      · omega
      · have := pth_lt h.2.2.1 h.2.1 hc hg q1 q2
        omega
    obtain ⟨r, e1, e2, e3⟩ := odC_ex (odC_3_0 n hn9)
    have wk : g_at 127 64 [.ref 38, .int (nI c), .int (nI g), .int 3, .int 0, .int 1, .int 1, .int (nI g), .null, .null] [] Z I J = g_at 127 98 [.ref 38, .int (nI c), .int (nI g), .int 3, .int 0, .int (pwI 7 n), .int (pwI 10 n), .int (nI c), .null, .null] [] Z I J := by
      rcases hn with ⟨q1, q2⟩ | ⟨q1, q2⟩
      · subst q1 q2
        rw [q_127_64]
        simp (decide := true) only [gN1_int, gN1_ref, gN1_null, gN1_long, gTg8_8, gTg8_14, gTg9_9, gTg9_13, gTgA_8, gTgA_9, gTgA_10, gTgA_11, gTgA_13, gTgA_14, gB01_0, gB01_1, gB01_b, List.cons_append, List.nil_append, Option.toList_some, Option.toList_none, Option.bind_some, ↓reduceIte, eq_self, not_true_eq_false, not_false_eq_true, b2i_0, b2i_1, up_eq, up_ne, up_up, up_sort, up_self, fl_at, nI_s, q_127_66, q_127_67, pwI]
      · have := X7_odds_walk (J := J) hZ h hc (g := nI g) (p := 3) (b := 0) n 0 g hg q1 q2
        rw [ha, Nat.zero_add] at this
        exact this
    simp (decide := true) only [gN1_int, gN1_ref, gN1_null, gN1_long, gTg8_8, gTg8_14, gTg9_9, gTg9_13, gTgA_8, gTgA_9, gTgA_10, gTgA_11, gTgA_13, gTgA_14, gB01_0, gB01_1, gB01_b, List.cons_append, List.nil_append, Option.toList_some, Option.toList_none, Option.bind_some, ↓reduceIte, eq_self, not_true_eq_false, not_false_eq_true, b2i_0, b2i_1, up_eq, up_ne, up_up, up_sort, up_self, fl_at, nI_s, q_127_0, q_127_1, q_127_2, q_127_5, q_127_8, q_127_9, q_127_10, q_127_13, q_127_16, q_127_18, q_127_19, q_127_20, q_127_21, q_127_23, q_127_26, q_127_29, q_127_31, q_127_32, q_127_33, q_127_36, q_127_39, q_127_41, q_127_42, q_127_43, q_127_44, q_127_45, q_127_48, q_127_49, q_127_52, q_127_54, q_127_55, q_127_56, q_127_58, q_127_59, q_127_61, q_127_62, zk_38, zs_38_1, zr_38_1, zs_38_2, zr_38_2, zs_38_3, zr_38_3, zs_38_4, zr_38_4, zs_38_8, zr_38_8, zs_38_17, zr_38_17, zs_38_18, zr_38_18, zs_38_19, zr_38_19, zs_38_22, zr_38_22, zs_38_23, zr_38_23, zs_38_25, zr_38_25, zs_38_26, zr_38_26, zs_38_28, zr_38_28, zs_38_29, zr_38_29, hZ, hm_is hZ h (show 1 ≤ N by omega), hm_g h hc, hm_g h hg, X7_in, i1, i2, r1, e, Bool.true_eq_false]
    rw [wk]
    simp (decide := true) only [gN1_int, gN1_ref, gN1_null, gN1_long, gTg8_8, gTg8_14, gTg9_9, gTg9_13, gTgA_8, gTgA_9, gTgA_10, gTgA_11, gTgA_13, gTgA_14, gB01_0, gB01_1, gB01_b, List.cons_append, List.nil_append, Option.toList_some, Option.toList_none, Option.bind_some, ↓reduceIte, eq_self, not_true_eq_false, not_false_eq_true, b2i_0, b2i_1, up_eq, up_ne, up_up, up_sort, up_self, fl_at, nI_s, q_127_98, q_127_100, q_127_102, q_127_104]
    rw [X7_odds_eg e2 60 _ _ _ e1, e3]
theorem odC_3_1 : ∀ n, n < 10 → odC 7 1 10 n = true := by decide +kernel
theorem X7_odds_3_1 (hZ : St Z) (h : HM I N w sl) {c g : Nat} (hc : c < N) (hg : g < N) : (mtF (I 39) (I 40) (I 41) (I 42) w sl N c g = -1 → g_at 127 0 [.ref 38, .int (nI c), .int (nI g), .int 3, .int 1, .null, .null, .null, .null, .null] [] Z I J = some (some (.int 1), Z, I, J)) ∧ (∀ n, ¬ mtF (I 39) (I 40) (I 41) (I 42) w sl N c g = -1 → ((g = c ∧ n = 0) ∨ (g ≠ c ∧ pth (I 39) (I 40) (I 41) w sl c n g)) → g_at 127 0 [.ref 38, .int (nI c), .int (nI g), .int 3, .int 1, .null, .null, .null, .null, .null] [] Z I J = some (some (.int (pwI 10 n)), Z, I, J)) := by
  have i1 : (decide ((0 : Int32) ≤ 3) && decide ((3 : Int32) ≤ 10)) = true := by decide
  have i2 : (decide ((0 : Int32) ≤ 1) && decide ((1 : Int32) ≤ 1)) = true := by decide
  have ha : (10 : Int32) - 3 = 7 := by decide
  have r1 := X7_firstOf (J := J) hZ h hc hg
  refine ⟨fun e => ?_, fun n e hn => ?_⟩
  · simp (decide := true) only [gN1_int, gN1_ref, gN1_null, gN1_long, gTg8_8, gTg8_14, gTg9_9, gTg9_13, gTgA_8, gTgA_9, gTgA_10, gTgA_11, gTgA_13, gTgA_14, gB01_0, gB01_1, gB01_b, List.cons_append, List.nil_append, Option.toList_some, Option.toList_none, Option.bind_some, ↓reduceIte, eq_self, not_true_eq_false, not_false_eq_true, b2i_0, b2i_1, up_eq, up_ne, up_up, up_sort, up_self, fl_at, nI_s, q_127_0, q_127_1, q_127_2, q_127_5, q_127_8, q_127_9, q_127_10, q_127_13, q_127_16, q_127_18, q_127_19, q_127_20, q_127_21, q_127_23, q_127_26, q_127_29, q_127_31, q_127_32, q_127_33, q_127_36, q_127_39, q_127_41, q_127_42, q_127_43, q_127_44, q_127_45, q_127_48, q_127_49, q_127_52, q_127_54, zk_38, zs_38_1, zr_38_1, zs_38_2, zr_38_2, zs_38_3, zr_38_3, zs_38_4, zr_38_4, zs_38_8, zr_38_8, zs_38_17, zr_38_17, zs_38_18, zr_38_18, zs_38_19, zr_38_19, zs_38_22, zr_38_22, zs_38_23, zr_38_23, zs_38_25, zr_38_25, zs_38_26, zr_38_26, zs_38_28, zr_38_28, zs_38_29, zr_38_29, hZ, hm_is hZ h (show 1 ≤ N by omega), hm_g h hc, hm_g h hg, X7_in, i1, i2, r1, e, Bool.true_eq_false]
  · have hN := h.2.1
    have hn9 : n < 10 := by
      rcases hn with ⟨_, q⟩ | ⟨q1, q2⟩
      · omega
      · have := pth_lt h.2.2.1 h.2.1 hc hg q1 q2
        omega
    obtain ⟨r, e1, e2, e3⟩ := odC_ex (odC_3_1 n hn9)
    have wk : g_at 127 64 [.ref 38, .int (nI c), .int (nI g), .int 3, .int 1, .int 1, .int 1, .int (nI g), .null, .null] [] Z I J = g_at 127 98 [.ref 38, .int (nI c), .int (nI g), .int 3, .int 1, .int (pwI 7 n), .int (pwI 10 n), .int (nI c), .null, .null] [] Z I J := by
      rcases hn with ⟨q1, q2⟩ | ⟨q1, q2⟩
      · subst q1 q2
        rw [q_127_64]
        simp (decide := true) only [gN1_int, gN1_ref, gN1_null, gN1_long, gTg8_8, gTg8_14, gTg9_9, gTg9_13, gTgA_8, gTgA_9, gTgA_10, gTgA_11, gTgA_13, gTgA_14, gB01_0, gB01_1, gB01_b, List.cons_append, List.nil_append, Option.toList_some, Option.toList_none, Option.bind_some, ↓reduceIte, eq_self, not_true_eq_false, not_false_eq_true, b2i_0, b2i_1, up_eq, up_ne, up_up, up_sort, up_self, fl_at, nI_s, q_127_66, q_127_67, pwI]
      · have := X7_odds_walk (J := J) hZ h hc (g := nI g) (p := 3) (b := 1) n 0 g hg q1 q2
        rw [ha, Nat.zero_add] at this
        exact this
    simp (decide := true) only [gN1_int, gN1_ref, gN1_null, gN1_long, gTg8_8, gTg8_14, gTg9_9, gTg9_13, gTgA_8, gTgA_9, gTgA_10, gTgA_11, gTgA_13, gTgA_14, gB01_0, gB01_1, gB01_b, List.cons_append, List.nil_append, Option.toList_some, Option.toList_none, Option.bind_some, ↓reduceIte, eq_self, not_true_eq_false, not_false_eq_true, b2i_0, b2i_1, up_eq, up_ne, up_up, up_sort, up_self, fl_at, nI_s, q_127_0, q_127_1, q_127_2, q_127_5, q_127_8, q_127_9, q_127_10, q_127_13, q_127_16, q_127_18, q_127_19, q_127_20, q_127_21, q_127_23, q_127_26, q_127_29, q_127_31, q_127_32, q_127_33, q_127_36, q_127_39, q_127_41, q_127_42, q_127_43, q_127_44, q_127_45, q_127_48, q_127_49, q_127_52, q_127_54, q_127_55, q_127_56, q_127_58, q_127_59, q_127_61, q_127_62, zk_38, zs_38_1, zr_38_1, zs_38_2, zr_38_2, zs_38_3, zr_38_3, zs_38_4, zr_38_4, zs_38_8, zr_38_8, zs_38_17, zr_38_17, zs_38_18, zr_38_18, zs_38_19, zr_38_19, zs_38_22, zr_38_22, zs_38_23, zr_38_23, zs_38_25, zr_38_25, zs_38_26, zr_38_26, zs_38_28, zr_38_28, zs_38_29, zr_38_29, hZ, hm_is hZ h (show 1 ≤ N by omega), hm_g h hc, hm_g h hg, X7_in, i1, i2, r1, e, Bool.true_eq_false]
    rw [wk]
    simp (decide := true) only [gN1_int, gN1_ref, gN1_null, gN1_long, gTg8_8, gTg8_14, gTg9_9, gTg9_13, gTgA_8, gTgA_9, gTgA_10, gTgA_11, gTgA_13, gTgA_14, gB01_0, gB01_1, gB01_b, List.cons_append, List.nil_append, Option.toList_some, Option.toList_none, Option.bind_some, ↓reduceIte, eq_self, not_true_eq_false, not_false_eq_true, b2i_0, b2i_1, up_eq, up_ne, up_up, up_sort, up_self, fl_at, nI_s, q_127_98, q_127_100, q_127_102, q_127_104]
    rw [X7_odds_eg e2 60 _ _ _ e1, e3]
theorem odC_4_0 : ∀ n, n < 10 → odC 6 0 3 n = true := by decide +kernel
theorem X7_odds_4_0 (hZ : St Z) (h : HM I N w sl) {c g : Nat} (hc : c < N) (hg : g < N) : (mtF (I 39) (I 40) (I 41) (I 42) w sl N c g = -1 → g_at 127 0 [.ref 38, .int (nI c), .int (nI g), .int 4, .int 0, .null, .null, .null, .null, .null] [] Z I J = some (some (.int 0), Z, I, J)) ∧ (∀ n, ¬ mtF (I 39) (I 40) (I 41) (I 42) w sl N c g = -1 → ((g = c ∧ n = 0) ∨ (g ≠ c ∧ pth (I 39) (I 40) (I 41) w sl c n g)) → g_at 127 0 [.ref 38, .int (nI c), .int (nI g), .int 4, .int 0, .null, .null, .null, .null, .null] [] Z I J = some (some (.int (pwI 3 n)), Z, I, J)) := by
  have i1 : (decide ((0 : Int32) ≤ 4) && decide ((4 : Int32) ≤ 10)) = true := by decide
  have i2 : (decide ((0 : Int32) ≤ 0) && decide ((0 : Int32) ≤ 1)) = true := by decide
  have ha : (10 : Int32) - 4 = 6 := by decide
  have r1 := X7_firstOf (J := J) hZ h hc hg
  refine ⟨fun e => ?_, fun n e hn => ?_⟩
  · simp (decide := true) only [gN1_int, gN1_ref, gN1_null, gN1_long, gTg8_8, gTg8_14, gTg9_9, gTg9_13, gTgA_8, gTgA_9, gTgA_10, gTgA_11, gTgA_13, gTgA_14, gB01_0, gB01_1, gB01_b, List.cons_append, List.nil_append, Option.toList_some, Option.toList_none, Option.bind_some, ↓reduceIte, eq_self, not_true_eq_false, not_false_eq_true, b2i_0, b2i_1, up_eq, up_ne, up_up, up_sort, up_self, fl_at, nI_s, q_127_0, q_127_1, q_127_2, q_127_5, q_127_8, q_127_9, q_127_10, q_127_13, q_127_16, q_127_18, q_127_19, q_127_20, q_127_21, q_127_23, q_127_26, q_127_29, q_127_31, q_127_32, q_127_33, q_127_36, q_127_39, q_127_41, q_127_42, q_127_43, q_127_44, q_127_45, q_127_48, q_127_49, q_127_52, q_127_54, zk_38, zs_38_1, zr_38_1, zs_38_2, zr_38_2, zs_38_3, zr_38_3, zs_38_4, zr_38_4, zs_38_8, zr_38_8, zs_38_17, zr_38_17, zs_38_18, zr_38_18, zs_38_19, zr_38_19, zs_38_22, zr_38_22, zs_38_23, zr_38_23, zs_38_25, zr_38_25, zs_38_26, zr_38_26, zs_38_28, zr_38_28, zs_38_29, zr_38_29, hZ, hm_is hZ h (show 1 ≤ N by omega), hm_g h hc, hm_g h hg, X7_in, i1, i2, r1, e, Bool.true_eq_false]
  · have hN := h.2.1
    have hn9 : n < 10 := by
      rcases hn with ⟨_, q⟩ | ⟨q1, q2⟩
      · omega
      · have := pth_lt h.2.2.1 h.2.1 hc hg q1 q2
        omega
    obtain ⟨r, e1, e2, e3⟩ := odC_ex (odC_4_0 n hn9)
    have wk : g_at 127 64 [.ref 38, .int (nI c), .int (nI g), .int 4, .int 0, .int 1, .int 1, .int (nI g), .null, .null] [] Z I J = g_at 127 98 [.ref 38, .int (nI c), .int (nI g), .int 4, .int 0, .int (pwI 6 n), .int (pwI 10 n), .int (nI c), .null, .null] [] Z I J := by
      rcases hn with ⟨q1, q2⟩ | ⟨q1, q2⟩
      · subst q1 q2
        rw [q_127_64]
        simp (decide := true) only [gN1_int, gN1_ref, gN1_null, gN1_long, gTg8_8, gTg8_14, gTg9_9, gTg9_13, gTgA_8, gTgA_9, gTgA_10, gTgA_11, gTgA_13, gTgA_14, gB01_0, gB01_1, gB01_b, List.cons_append, List.nil_append, Option.toList_some, Option.toList_none, Option.bind_some, ↓reduceIte, eq_self, not_true_eq_false, not_false_eq_true, b2i_0, b2i_1, up_eq, up_ne, up_up, up_sort, up_self, fl_at, nI_s, q_127_66, q_127_67, pwI]
      · have := X7_odds_walk (J := J) hZ h hc (g := nI g) (p := 4) (b := 0) n 0 g hg q1 q2
        rw [ha, Nat.zero_add] at this
        exact this
    simp (decide := true) only [gN1_int, gN1_ref, gN1_null, gN1_long, gTg8_8, gTg8_14, gTg9_9, gTg9_13, gTgA_8, gTgA_9, gTgA_10, gTgA_11, gTgA_13, gTgA_14, gB01_0, gB01_1, gB01_b, List.cons_append, List.nil_append, Option.toList_some, Option.toList_none, Option.bind_some, ↓reduceIte, eq_self, not_true_eq_false, not_false_eq_true, b2i_0, b2i_1, up_eq, up_ne, up_up, up_sort, up_self, fl_at, nI_s, q_127_0, q_127_1, q_127_2, q_127_5, q_127_8, q_127_9, q_127_10, q_127_13, q_127_16, q_127_18, q_127_19, q_127_20, q_127_21, q_127_23, q_127_26, q_127_29, q_127_31, q_127_32, q_127_33, q_127_36, q_127_39, q_127_41, q_127_42, q_127_43, q_127_44, q_127_45, q_127_48, q_127_49, q_127_52, q_127_54, q_127_55, q_127_56, q_127_58, q_127_59, q_127_61, q_127_62, zk_38, zs_38_1, zr_38_1, zs_38_2, zr_38_2, zs_38_3, zr_38_3, zs_38_4, zr_38_4, zs_38_8, zr_38_8, zs_38_17, zr_38_17, zs_38_18, zr_38_18, zs_38_19, zr_38_19, zs_38_22, zr_38_22, zs_38_23, zr_38_23, zs_38_25, zr_38_25, zs_38_26, zr_38_26, zs_38_28, zr_38_28, zs_38_29, zr_38_29, hZ, hm_is hZ h (show 1 ≤ N by omega), hm_g h hc, hm_g h hg, X7_in, i1, i2, r1, e, Bool.true_eq_false]
    rw [wk]
    simp (decide := true) only [gN1_int, gN1_ref, gN1_null, gN1_long, gTg8_8, gTg8_14, gTg9_9, gTg9_13, gTgA_8, gTgA_9, gTgA_10, gTgA_11, gTgA_13, gTgA_14, gB01_0, gB01_1, gB01_b, List.cons_append, List.nil_append, Option.toList_some, Option.toList_none, Option.bind_some, ↓reduceIte, eq_self, not_true_eq_false, not_false_eq_true, b2i_0, b2i_1, up_eq, up_ne, up_up, up_sort, up_self, fl_at, nI_s, q_127_98, q_127_100, q_127_102, q_127_104]
    rw [X7_odds_eg e2 60 _ _ _ e1, e3]
theorem odC_4_1 : ∀ n, n < 10 → odC 6 1 5 n = true := by decide +kernel
theorem X7_odds_4_1 (hZ : St Z) (h : HM I N w sl) {c g : Nat} (hc : c < N) (hg : g < N) : (mtF (I 39) (I 40) (I 41) (I 42) w sl N c g = -1 → g_at 127 0 [.ref 38, .int (nI c), .int (nI g), .int 4, .int 1, .null, .null, .null, .null, .null] [] Z I J = some (some (.int 1), Z, I, J)) ∧ (∀ n, ¬ mtF (I 39) (I 40) (I 41) (I 42) w sl N c g = -1 → ((g = c ∧ n = 0) ∨ (g ≠ c ∧ pth (I 39) (I 40) (I 41) w sl c n g)) → g_at 127 0 [.ref 38, .int (nI c), .int (nI g), .int 4, .int 1, .null, .null, .null, .null, .null] [] Z I J = some (some (.int (pwI 5 n)), Z, I, J)) := by
  have i1 : (decide ((0 : Int32) ≤ 4) && decide ((4 : Int32) ≤ 10)) = true := by decide
  have i2 : (decide ((0 : Int32) ≤ 1) && decide ((1 : Int32) ≤ 1)) = true := by decide
  have ha : (10 : Int32) - 4 = 6 := by decide
  have r1 := X7_firstOf (J := J) hZ h hc hg
  refine ⟨fun e => ?_, fun n e hn => ?_⟩
  · simp (decide := true) only [gN1_int, gN1_ref, gN1_null, gN1_long, gTg8_8, gTg8_14, gTg9_9, gTg9_13, gTgA_8, gTgA_9, gTgA_10, gTgA_11, gTgA_13, gTgA_14, gB01_0, gB01_1, gB01_b, List.cons_append, List.nil_append, Option.toList_some, Option.toList_none, Option.bind_some, ↓reduceIte, eq_self, not_true_eq_false, not_false_eq_true, b2i_0, b2i_1, up_eq, up_ne, up_up, up_sort, up_self, fl_at, nI_s, q_127_0, q_127_1, q_127_2, q_127_5, q_127_8, q_127_9, q_127_10, q_127_13, q_127_16, q_127_18, q_127_19, q_127_20, q_127_21, q_127_23, q_127_26, q_127_29, q_127_31, q_127_32, q_127_33, q_127_36, q_127_39, q_127_41, q_127_42, q_127_43, q_127_44, q_127_45, q_127_48, q_127_49, q_127_52, q_127_54, zk_38, zs_38_1, zr_38_1, zs_38_2, zr_38_2, zs_38_3, zr_38_3, zs_38_4, zr_38_4, zs_38_8, zr_38_8, zs_38_17, zr_38_17, zs_38_18, zr_38_18, zs_38_19, zr_38_19, zs_38_22, zr_38_22, zs_38_23, zr_38_23, zs_38_25, zr_38_25, zs_38_26, zr_38_26, zs_38_28, zr_38_28, zs_38_29, zr_38_29, hZ, hm_is hZ h (show 1 ≤ N by omega), hm_g h hc, hm_g h hg, X7_in, i1, i2, r1, e, Bool.true_eq_false]
  · have hN := h.2.1
    have hn9 : n < 10 := by
      rcases hn with ⟨_, q⟩ | ⟨q1, q2⟩
      · omega
      · have := pth_lt h.2.2.1 h.2.1 hc hg q1 q2
        omega
    obtain ⟨r, e1, e2, e3⟩ := odC_ex (odC_4_1 n hn9)
    have wk : g_at 127 64 [.ref 38, .int (nI c), .int (nI g), .int 4, .int 1, .int 1, .int 1, .int (nI g), .null, .null] [] Z I J = g_at 127 98 [.ref 38, .int (nI c), .int (nI g), .int 4, .int 1, .int (pwI 6 n), .int (pwI 10 n), .int (nI c), .null, .null] [] Z I J := by
      rcases hn with ⟨q1, q2⟩ | ⟨q1, q2⟩
      · subst q1 q2
        rw [q_127_64]
        simp (decide := true) only [gN1_int, gN1_ref, gN1_null, gN1_long, gTg8_8, gTg8_14, gTg9_9, gTg9_13, gTgA_8, gTgA_9, gTgA_10, gTgA_11, gTgA_13, gTgA_14, gB01_0, gB01_1, gB01_b, List.cons_append, List.nil_append, Option.toList_some, Option.toList_none, Option.bind_some, ↓reduceIte, eq_self, not_true_eq_false, not_false_eq_true, b2i_0, b2i_1, up_eq, up_ne, up_up, up_sort, up_self, fl_at, nI_s, q_127_66, q_127_67, pwI]
      · have := X7_odds_walk (J := J) hZ h hc (g := nI g) (p := 4) (b := 1) n 0 g hg q1 q2
        rw [ha, Nat.zero_add] at this
        exact this
    simp (decide := true) only [gN1_int, gN1_ref, gN1_null, gN1_long, gTg8_8, gTg8_14, gTg9_9, gTg9_13, gTgA_8, gTgA_9, gTgA_10, gTgA_11, gTgA_13, gTgA_14, gB01_0, gB01_1, gB01_b, List.cons_append, List.nil_append, Option.toList_some, Option.toList_none, Option.bind_some, ↓reduceIte, eq_self, not_true_eq_false, not_false_eq_true, b2i_0, b2i_1, up_eq, up_ne, up_up, up_sort, up_self, fl_at, nI_s, q_127_0, q_127_1, q_127_2, q_127_5, q_127_8, q_127_9, q_127_10, q_127_13, q_127_16, q_127_18, q_127_19, q_127_20, q_127_21, q_127_23, q_127_26, q_127_29, q_127_31, q_127_32, q_127_33, q_127_36, q_127_39, q_127_41, q_127_42, q_127_43, q_127_44, q_127_45, q_127_48, q_127_49, q_127_52, q_127_54, q_127_55, q_127_56, q_127_58, q_127_59, q_127_61, q_127_62, zk_38, zs_38_1, zr_38_1, zs_38_2, zr_38_2, zs_38_3, zr_38_3, zs_38_4, zr_38_4, zs_38_8, zr_38_8, zs_38_17, zr_38_17, zs_38_18, zr_38_18, zs_38_19, zr_38_19, zs_38_22, zr_38_22, zs_38_23, zr_38_23, zs_38_25, zr_38_25, zs_38_26, zr_38_26, zs_38_28, zr_38_28, zs_38_29, zr_38_29, hZ, hm_is hZ h (show 1 ≤ N by omega), hm_g h hc, hm_g h hg, X7_in, i1, i2, r1, e, Bool.true_eq_false]
    rw [wk]
    simp (decide := true) only [gN1_int, gN1_ref, gN1_null, gN1_long, gTg8_8, gTg8_14, gTg9_9, gTg9_13, gTgA_8, gTgA_9, gTgA_10, gTgA_11, gTgA_13, gTgA_14, gB01_0, gB01_1, gB01_b, List.cons_append, List.nil_append, Option.toList_some, Option.toList_none, Option.bind_some, ↓reduceIte, eq_self, not_true_eq_false, not_false_eq_true, b2i_0, b2i_1, up_eq, up_ne, up_up, up_sort, up_self, fl_at, nI_s, q_127_98, q_127_100, q_127_102, q_127_104]
    rw [X7_odds_eg e2 60 _ _ _ e1, e3]
theorem odC_5_0 : ∀ n, n < 10 → odC 5 0 1 n = true := by decide +kernel
theorem X7_odds_5_0 (hZ : St Z) (h : HM I N w sl) {c g : Nat} (hc : c < N) (hg : g < N) : (mtF (I 39) (I 40) (I 41) (I 42) w sl N c g = -1 → g_at 127 0 [.ref 38, .int (nI c), .int (nI g), .int 5, .int 0, .null, .null, .null, .null, .null] [] Z I J = some (some (.int 0), Z, I, J)) ∧ (∀ n, ¬ mtF (I 39) (I 40) (I 41) (I 42) w sl N c g = -1 → ((g = c ∧ n = 0) ∨ (g ≠ c ∧ pth (I 39) (I 40) (I 41) w sl c n g)) → g_at 127 0 [.ref 38, .int (nI c), .int (nI g), .int 5, .int 0, .null, .null, .null, .null, .null] [] Z I J = some (some (.int (pwI 1 n)), Z, I, J)) := by
  have i1 : (decide ((0 : Int32) ≤ 5) && decide ((5 : Int32) ≤ 10)) = true := by decide
  have i2 : (decide ((0 : Int32) ≤ 0) && decide ((0 : Int32) ≤ 1)) = true := by decide
  have ha : (10 : Int32) - 5 = 5 := by decide
  have r1 := X7_firstOf (J := J) hZ h hc hg
  refine ⟨fun e => ?_, fun n e hn => ?_⟩
  · simp (decide := true) only [gN1_int, gN1_ref, gN1_null, gN1_long, gTg8_8, gTg8_14, gTg9_9, gTg9_13, gTgA_8, gTgA_9, gTgA_10, gTgA_11, gTgA_13, gTgA_14, gB01_0, gB01_1, gB01_b, List.cons_append, List.nil_append, Option.toList_some, Option.toList_none, Option.bind_some, ↓reduceIte, eq_self, not_true_eq_false, not_false_eq_true, b2i_0, b2i_1, up_eq, up_ne, up_up, up_sort, up_self, fl_at, nI_s, q_127_0, q_127_1, q_127_2, q_127_5, q_127_8, q_127_9, q_127_10, q_127_13, q_127_16, q_127_18, q_127_19, q_127_20, q_127_21, q_127_23, q_127_26, q_127_29, q_127_31, q_127_32, q_127_33, q_127_36, q_127_39, q_127_41, q_127_42, q_127_43, q_127_44, q_127_45, q_127_48, q_127_49, q_127_52, q_127_54, zk_38, zs_38_1, zr_38_1, zs_38_2, zr_38_2, zs_38_3, zr_38_3, zs_38_4, zr_38_4, zs_38_8, zr_38_8, zs_38_17, zr_38_17, zs_38_18, zr_38_18, zs_38_19, zr_38_19, zs_38_22, zr_38_22, zs_38_23, zr_38_23, zs_38_25, zr_38_25, zs_38_26, zr_38_26, zs_38_28, zr_38_28, zs_38_29, zr_38_29, hZ, hm_is hZ h (show 1 ≤ N by omega), hm_g h hc, hm_g h hg, X7_in, i1, i2, r1, e, Bool.true_eq_false]
  · have hN := h.2.1
    have hn9 : n < 10 := by
      rcases hn with ⟨_, q⟩ | ⟨q1, q2⟩
      · omega
      · have := pth_lt h.2.2.1 h.2.1 hc hg q1 q2
        omega
    obtain ⟨r, e1, e2, e3⟩ := odC_ex (odC_5_0 n hn9)
    have wk : g_at 127 64 [.ref 38, .int (nI c), .int (nI g), .int 5, .int 0, .int 1, .int 1, .int (nI g), .null, .null] [] Z I J = g_at 127 98 [.ref 38, .int (nI c), .int (nI g), .int 5, .int 0, .int (pwI 5 n), .int (pwI 10 n), .int (nI c), .null, .null] [] Z I J := by
      rcases hn with ⟨q1, q2⟩ | ⟨q1, q2⟩
      · subst q1 q2
        rw [q_127_64]
        simp (decide := true) only [gN1_int, gN1_ref, gN1_null, gN1_long, gTg8_8, gTg8_14, gTg9_9, gTg9_13, gTgA_8, gTgA_9, gTgA_10, gTgA_11, gTgA_13, gTgA_14, gB01_0, gB01_1, gB01_b, List.cons_append, List.nil_append, Option.toList_some, Option.toList_none, Option.bind_some, ↓reduceIte, eq_self, not_true_eq_false, not_false_eq_true, b2i_0, b2i_1, up_eq, up_ne, up_up, up_sort, up_self, fl_at, nI_s, q_127_66, q_127_67, pwI]
      · have := X7_odds_walk (J := J) hZ h hc (g := nI g) (p := 5) (b := 0) n 0 g hg q1 q2
        rw [ha, Nat.zero_add] at this
        exact this
    simp (decide := true) only [gN1_int, gN1_ref, gN1_null, gN1_long, gTg8_8, gTg8_14, gTg9_9, gTg9_13, gTgA_8, gTgA_9, gTgA_10, gTgA_11, gTgA_13, gTgA_14, gB01_0, gB01_1, gB01_b, List.cons_append, List.nil_append, Option.toList_some, Option.toList_none, Option.bind_some, ↓reduceIte, eq_self, not_true_eq_false, not_false_eq_true, b2i_0, b2i_1, up_eq, up_ne, up_up, up_sort, up_self, fl_at, nI_s, q_127_0, q_127_1, q_127_2, q_127_5, q_127_8, q_127_9, q_127_10, q_127_13, q_127_16, q_127_18, q_127_19, q_127_20, q_127_21, q_127_23, q_127_26, q_127_29, q_127_31, q_127_32, q_127_33, q_127_36, q_127_39, q_127_41, q_127_42, q_127_43, q_127_44, q_127_45, q_127_48, q_127_49, q_127_52, q_127_54, q_127_55, q_127_56, q_127_58, q_127_59, q_127_61, q_127_62, zk_38, zs_38_1, zr_38_1, zs_38_2, zr_38_2, zs_38_3, zr_38_3, zs_38_4, zr_38_4, zs_38_8, zr_38_8, zs_38_17, zr_38_17, zs_38_18, zr_38_18, zs_38_19, zr_38_19, zs_38_22, zr_38_22, zs_38_23, zr_38_23, zs_38_25, zr_38_25, zs_38_26, zr_38_26, zs_38_28, zr_38_28, zs_38_29, zr_38_29, hZ, hm_is hZ h (show 1 ≤ N by omega), hm_g h hc, hm_g h hg, X7_in, i1, i2, r1, e, Bool.true_eq_false]
    rw [wk]
    simp (decide := true) only [gN1_int, gN1_ref, gN1_null, gN1_long, gTg8_8, gTg8_14, gTg9_9, gTg9_13, gTgA_8, gTgA_9, gTgA_10, gTgA_11, gTgA_13, gTgA_14, gB01_0, gB01_1, gB01_b, List.cons_append, List.nil_append, Option.toList_some, Option.toList_none, Option.bind_some, ↓reduceIte, eq_self, not_true_eq_false, not_false_eq_true, b2i_0, b2i_1, up_eq, up_ne, up_up, up_sort, up_self, fl_at, nI_s, q_127_98, q_127_100, q_127_102, q_127_104]
    rw [X7_odds_eg e2 60 _ _ _ e1, e3]
theorem odC_5_1 : ∀ n, n < 10 → odC 5 1 2 n = true := by decide +kernel
theorem X7_odds_5_1 (hZ : St Z) (h : HM I N w sl) {c g : Nat} (hc : c < N) (hg : g < N) : (mtF (I 39) (I 40) (I 41) (I 42) w sl N c g = -1 → g_at 127 0 [.ref 38, .int (nI c), .int (nI g), .int 5, .int 1, .null, .null, .null, .null, .null] [] Z I J = some (some (.int 1), Z, I, J)) ∧ (∀ n, ¬ mtF (I 39) (I 40) (I 41) (I 42) w sl N c g = -1 → ((g = c ∧ n = 0) ∨ (g ≠ c ∧ pth (I 39) (I 40) (I 41) w sl c n g)) → g_at 127 0 [.ref 38, .int (nI c), .int (nI g), .int 5, .int 1, .null, .null, .null, .null, .null] [] Z I J = some (some (.int (pwI 2 n)), Z, I, J)) := by
  have i1 : (decide ((0 : Int32) ≤ 5) && decide ((5 : Int32) ≤ 10)) = true := by decide
  have i2 : (decide ((0 : Int32) ≤ 1) && decide ((1 : Int32) ≤ 1)) = true := by decide
  have ha : (10 : Int32) - 5 = 5 := by decide
  have r1 := X7_firstOf (J := J) hZ h hc hg
  refine ⟨fun e => ?_, fun n e hn => ?_⟩
  · simp (decide := true) only [gN1_int, gN1_ref, gN1_null, gN1_long, gTg8_8, gTg8_14, gTg9_9, gTg9_13, gTgA_8, gTgA_9, gTgA_10, gTgA_11, gTgA_13, gTgA_14, gB01_0, gB01_1, gB01_b, List.cons_append, List.nil_append, Option.toList_some, Option.toList_none, Option.bind_some, ↓reduceIte, eq_self, not_true_eq_false, not_false_eq_true, b2i_0, b2i_1, up_eq, up_ne, up_up, up_sort, up_self, fl_at, nI_s, q_127_0, q_127_1, q_127_2, q_127_5, q_127_8, q_127_9, q_127_10, q_127_13, q_127_16, q_127_18, q_127_19, q_127_20, q_127_21, q_127_23, q_127_26, q_127_29, q_127_31, q_127_32, q_127_33, q_127_36, q_127_39, q_127_41, q_127_42, q_127_43, q_127_44, q_127_45, q_127_48, q_127_49, q_127_52, q_127_54, zk_38, zs_38_1, zr_38_1, zs_38_2, zr_38_2, zs_38_3, zr_38_3, zs_38_4, zr_38_4, zs_38_8, zr_38_8, zs_38_17, zr_38_17, zs_38_18, zr_38_18, zs_38_19, zr_38_19, zs_38_22, zr_38_22, zs_38_23, zr_38_23, zs_38_25, zr_38_25, zs_38_26, zr_38_26, zs_38_28, zr_38_28, zs_38_29, zr_38_29, hZ, hm_is hZ h (show 1 ≤ N by omega), hm_g h hc, hm_g h hg, X7_in, i1, i2, r1, e, Bool.true_eq_false]
  · have hN := h.2.1
    have hn9 : n < 10 := by
      rcases hn with ⟨_, q⟩ | ⟨q1, q2⟩
      · omega
      · have := pth_lt h.2.2.1 h.2.1 hc hg q1 q2
        omega
    obtain ⟨r, e1, e2, e3⟩ := odC_ex (odC_5_1 n hn9)
    have wk : g_at 127 64 [.ref 38, .int (nI c), .int (nI g), .int 5, .int 1, .int 1, .int 1, .int (nI g), .null, .null] [] Z I J = g_at 127 98 [.ref 38, .int (nI c), .int (nI g), .int 5, .int 1, .int (pwI 5 n), .int (pwI 10 n), .int (nI c), .null, .null] [] Z I J := by
      rcases hn with ⟨q1, q2⟩ | ⟨q1, q2⟩
      · subst q1 q2
        rw [q_127_64]
        simp (decide := true) only [gN1_int, gN1_ref, gN1_null, gN1_long, gTg8_8, gTg8_14, gTg9_9, gTg9_13, gTgA_8, gTgA_9, gTgA_10, gTgA_11, gTgA_13, gTgA_14, gB01_0, gB01_1, gB01_b, List.cons_append, List.nil_append, Option.toList_some, Option.toList_none, Option.bind_some, ↓reduceIte, eq_self, not_true_eq_false, not_false_eq_true, b2i_0, b2i_1, up_eq, up_ne, up_up, up_sort, up_self, fl_at, nI_s, q_127_66, q_127_67, pwI]
      · have := X7_odds_walk (J := J) hZ h hc (g := nI g) (p := 5) (b := 1) n 0 g hg q1 q2
        rw [ha, Nat.zero_add] at this
        exact this
    simp (decide := true) only [gN1_int, gN1_ref, gN1_null, gN1_long, gTg8_8, gTg8_14, gTg9_9, gTg9_13, gTgA_8, gTgA_9, gTgA_10, gTgA_11, gTgA_13, gTgA_14, gB01_0, gB01_1, gB01_b, List.cons_append, List.nil_append, Option.toList_some, Option.toList_none, Option.bind_some, ↓reduceIte, eq_self, not_true_eq_false, not_false_eq_true, b2i_0, b2i_1, up_eq, up_ne, up_up, up_sort, up_self, fl_at, nI_s, q_127_0, q_127_1, q_127_2, q_127_5, q_127_8, q_127_9, q_127_10, q_127_13, q_127_16, q_127_18, q_127_19, q_127_20, q_127_21, q_127_23, q_127_26, q_127_29, q_127_31, q_127_32, q_127_33, q_127_36, q_127_39, q_127_41, q_127_42, q_127_43, q_127_44, q_127_45, q_127_48, q_127_49, q_127_52, q_127_54, q_127_55, q_127_56, q_127_58, q_127_59, q_127_61, q_127_62, zk_38, zs_38_1, zr_38_1, zs_38_2, zr_38_2, zs_38_3, zr_38_3, zs_38_4, zr_38_4, zs_38_8, zr_38_8, zs_38_17, zr_38_17, zs_38_18, zr_38_18, zs_38_19, zr_38_19, zs_38_22, zr_38_22, zs_38_23, zr_38_23, zs_38_25, zr_38_25, zs_38_26, zr_38_26, zs_38_28, zr_38_28, zs_38_29, zr_38_29, hZ, hm_is hZ h (show 1 ≤ N by omega), hm_g h hc, hm_g h hg, X7_in, i1, i2, r1, e, Bool.true_eq_false]
    rw [wk]
    simp (decide := true) only [gN1_int, gN1_ref, gN1_null, gN1_long, gTg8_8, gTg8_14, gTg9_9, gTg9_13, gTgA_8, gTgA_9, gTgA_10, gTgA_11, gTgA_13, gTgA_14, gB01_0, gB01_1, gB01_b, List.cons_append, List.nil_append, Option.toList_some, Option.toList_none, Option.bind_some, ↓reduceIte, eq_self, not_true_eq_false, not_false_eq_true, b2i_0, b2i_1, up_eq, up_ne, up_up, up_sort, up_self, fl_at, nI_s, q_127_98, q_127_100, q_127_102, q_127_104]
    rw [X7_odds_eg e2 60 _ _ _ e1, e3]
theorem odC_6_0 : ∀ n, n < 10 → odC 4 0 2 n = true := by decide +kernel
theorem X7_odds_6_0 (hZ : St Z) (h : HM I N w sl) {c g : Nat} (hc : c < N) (hg : g < N) : (mtF (I 39) (I 40) (I 41) (I 42) w sl N c g = -1 → g_at 127 0 [.ref 38, .int (nI c), .int (nI g), .int 6, .int 0, .null, .null, .null, .null, .null] [] Z I J = some (some (.int 0), Z, I, J)) ∧ (∀ n, ¬ mtF (I 39) (I 40) (I 41) (I 42) w sl N c g = -1 → ((g = c ∧ n = 0) ∨ (g ≠ c ∧ pth (I 39) (I 40) (I 41) w sl c n g)) → g_at 127 0 [.ref 38, .int (nI c), .int (nI g), .int 6, .int 0, .null, .null, .null, .null, .null] [] Z I J = some (some (.int (pwI 2 n)), Z, I, J)) := by
  have i1 : (decide ((0 : Int32) ≤ 6) && decide ((6 : Int32) ≤ 10)) = true := by decide
  have i2 : (decide ((0 : Int32) ≤ 0) && decide ((0 : Int32) ≤ 1)) = true := by decide
  have ha : (10 : Int32) - 6 = 4 := by decide
  have r1 := X7_firstOf (J := J) hZ h hc hg
  refine ⟨fun e => ?_, fun n e hn => ?_⟩
  · simp (decide := true) only [gN1_int, gN1_ref, gN1_null, gN1_long, gTg8_8, gTg8_14, gTg9_9, gTg9_13, gTgA_8, gTgA_9, gTgA_10, gTgA_11, gTgA_13, gTgA_14, gB01_0, gB01_1, gB01_b, List.cons_append, List.nil_append, Option.toList_some, Option.toList_none, Option.bind_some, ↓reduceIte, eq_self, not_true_eq_false, not_false_eq_true, b2i_0, b2i_1, up_eq, up_ne, up_up, up_sort, up_self, fl_at, nI_s, q_127_0, q_127_1, q_127_2, q_127_5, q_127_8, q_127_9, q_127_10, q_127_13, q_127_16, q_127_18, q_127_19, q_127_20, q_127_21, q_127_23, q_127_26, q_127_29, q_127_31, q_127_32, q_127_33, q_127_36, q_127_39, q_127_41, q_127_42, q_127_43, q_127_44, q_127_45, q_127_48, q_127_49, q_127_52, q_127_54, zk_38, zs_38_1, zr_38_1, zs_38_2, zr_38_2, zs_38_3, zr_38_3, zs_38_4, zr_38_4, zs_38_8, zr_38_8, zs_38_17, zr_38_17, zs_38_18, zr_38_18, zs_38_19, zr_38_19, zs_38_22, zr_38_22, zs_38_23, zr_38_23, zs_38_25, zr_38_25, zs_38_26, zr_38_26, zs_38_28, zr_38_28, zs_38_29, zr_38_29, hZ, hm_is hZ h (show 1 ≤ N by omega), hm_g h hc, hm_g h hg, X7_in, i1, i2, r1, e, Bool.true_eq_false]
  · have hN := h.2.1
    have hn9 : n < 10 := by
      rcases hn with ⟨_, q⟩ | ⟨q1, q2⟩
      · omega
      · have := pth_lt h.2.2.1 h.2.1 hc hg q1 q2
        omega
    obtain ⟨r, e1, e2, e3⟩ := odC_ex (odC_6_0 n hn9)
    have wk : g_at 127 64 [.ref 38, .int (nI c), .int (nI g), .int 6, .int 0, .int 1, .int 1, .int (nI g), .null, .null] [] Z I J = g_at 127 98 [.ref 38, .int (nI c), .int (nI g), .int 6, .int 0, .int (pwI 4 n), .int (pwI 10 n), .int (nI c), .null, .null] [] Z I J := by
      rcases hn with ⟨q1, q2⟩ | ⟨q1, q2⟩
      · subst q1 q2
        rw [q_127_64]
        simp (decide := true) only [gN1_int, gN1_ref, gN1_null, gN1_long, gTg8_8, gTg8_14, gTg9_9, gTg9_13, gTgA_8, gTgA_9, gTgA_10, gTgA_11, gTgA_13, gTgA_14, gB01_0, gB01_1, gB01_b, List.cons_append, List.nil_append, Option.toList_some, Option.toList_none, Option.bind_some, ↓reduceIte, eq_self, not_true_eq_false, not_false_eq_true, b2i_0, b2i_1, up_eq, up_ne, up_up, up_sort, up_self, fl_at, nI_s, q_127_66, q_127_67, pwI]
      · have := X7_odds_walk (J := J) hZ h hc (g := nI g) (p := 6) (b := 0) n 0 g hg q1 q2
        rw [ha, Nat.zero_add] at this
        exact this
    simp (decide := true) only [gN1_int, gN1_ref, gN1_null, gN1_long, gTg8_8, gTg8_14, gTg9_9, gTg9_13, gTgA_8, gTgA_9, gTgA_10, gTgA_11, gTgA_13, gTgA_14, gB01_0, gB01_1, gB01_b, List.cons_append, List.nil_append, Option.toList_some, Option.toList_none, Option.bind_some, ↓reduceIte, eq_self, not_true_eq_false, not_false_eq_true, b2i_0, b2i_1, up_eq, up_ne, up_up, up_sort, up_self, fl_at, nI_s, q_127_0, q_127_1, q_127_2, q_127_5, q_127_8, q_127_9, q_127_10, q_127_13, q_127_16, q_127_18, q_127_19, q_127_20, q_127_21, q_127_23, q_127_26, q_127_29, q_127_31, q_127_32, q_127_33, q_127_36, q_127_39, q_127_41, q_127_42, q_127_43, q_127_44, q_127_45, q_127_48, q_127_49, q_127_52, q_127_54, q_127_55, q_127_56, q_127_58, q_127_59, q_127_61, q_127_62, zk_38, zs_38_1, zr_38_1, zs_38_2, zr_38_2, zs_38_3, zr_38_3, zs_38_4, zr_38_4, zs_38_8, zr_38_8, zs_38_17, zr_38_17, zs_38_18, zr_38_18, zs_38_19, zr_38_19, zs_38_22, zr_38_22, zs_38_23, zr_38_23, zs_38_25, zr_38_25, zs_38_26, zr_38_26, zs_38_28, zr_38_28, zs_38_29, zr_38_29, hZ, hm_is hZ h (show 1 ≤ N by omega), hm_g h hc, hm_g h hg, X7_in, i1, i2, r1, e, Bool.true_eq_false]
    rw [wk]
    simp (decide := true) only [gN1_int, gN1_ref, gN1_null, gN1_long, gTg8_8, gTg8_14, gTg9_9, gTg9_13, gTgA_8, gTgA_9, gTgA_10, gTgA_11, gTgA_13, gTgA_14, gB01_0, gB01_1, gB01_b, List.cons_append, List.nil_append, Option.toList_some, Option.toList_none, Option.bind_some, ↓reduceIte, eq_self, not_true_eq_false, not_false_eq_true, b2i_0, b2i_1, up_eq, up_ne, up_up, up_sort, up_self, fl_at, nI_s, q_127_98, q_127_100, q_127_102, q_127_104]
    rw [X7_odds_eg e2 60 _ _ _ e1, e3]
theorem odC_6_1 : ∀ n, n < 10 → odC 4 1 5 n = true := by decide +kernel
theorem X7_odds_6_1 (hZ : St Z) (h : HM I N w sl) {c g : Nat} (hc : c < N) (hg : g < N) : (mtF (I 39) (I 40) (I 41) (I 42) w sl N c g = -1 → g_at 127 0 [.ref 38, .int (nI c), .int (nI g), .int 6, .int 1, .null, .null, .null, .null, .null] [] Z I J = some (some (.int 1), Z, I, J)) ∧ (∀ n, ¬ mtF (I 39) (I 40) (I 41) (I 42) w sl N c g = -1 → ((g = c ∧ n = 0) ∨ (g ≠ c ∧ pth (I 39) (I 40) (I 41) w sl c n g)) → g_at 127 0 [.ref 38, .int (nI c), .int (nI g), .int 6, .int 1, .null, .null, .null, .null, .null] [] Z I J = some (some (.int (pwI 5 n)), Z, I, J)) := by
  have i1 : (decide ((0 : Int32) ≤ 6) && decide ((6 : Int32) ≤ 10)) = true := by decide
  have i2 : (decide ((0 : Int32) ≤ 1) && decide ((1 : Int32) ≤ 1)) = true := by decide
  have ha : (10 : Int32) - 6 = 4 := by decide
  have r1 := X7_firstOf (J := J) hZ h hc hg
  refine ⟨fun e => ?_, fun n e hn => ?_⟩
  · simp (decide := true) only [gN1_int, gN1_ref, gN1_null, gN1_long, gTg8_8, gTg8_14, gTg9_9, gTg9_13, gTgA_8, gTgA_9, gTgA_10, gTgA_11, gTgA_13, gTgA_14, gB01_0, gB01_1, gB01_b, List.cons_append, List.nil_append, Option.toList_some, Option.toList_none, Option.bind_some, ↓reduceIte, eq_self, not_true_eq_false, not_false_eq_true, b2i_0, b2i_1, up_eq, up_ne, up_up, up_sort, up_self, fl_at, nI_s, q_127_0, q_127_1, q_127_2, q_127_5, q_127_8, q_127_9, q_127_10, q_127_13, q_127_16, q_127_18, q_127_19, q_127_20, q_127_21, q_127_23, q_127_26, q_127_29, q_127_31, q_127_32, q_127_33, q_127_36, q_127_39, q_127_41, q_127_42, q_127_43, q_127_44, q_127_45, q_127_48, q_127_49, q_127_52, q_127_54, zk_38, zs_38_1, zr_38_1, zs_38_2, zr_38_2, zs_38_3, zr_38_3, zs_38_4, zr_38_4, zs_38_8, zr_38_8, zs_38_17, zr_38_17, zs_38_18, zr_38_18, zs_38_19, zr_38_19, zs_38_22, zr_38_22, zs_38_23, zr_38_23, zs_38_25, zr_38_25, zs_38_26, zr_38_26, zs_38_28, zr_38_28, zs_38_29, zr_38_29, hZ, hm_is hZ h (show 1 ≤ N by omega), hm_g h hc, hm_g h hg, X7_in, i1, i2, r1, e, Bool.true_eq_false]
  · have hN := h.2.1
    have hn9 : n < 10 := by
      rcases hn with ⟨_, q⟩ | ⟨q1, q2⟩
      · omega
      · have := pth_lt h.2.2.1 h.2.1 hc hg q1 q2
        omega
    obtain ⟨r, e1, e2, e3⟩ := odC_ex (odC_6_1 n hn9)
    have wk : g_at 127 64 [.ref 38, .int (nI c), .int (nI g), .int 6, .int 1, .int 1, .int 1, .int (nI g), .null, .null] [] Z I J = g_at 127 98 [.ref 38, .int (nI c), .int (nI g), .int 6, .int 1, .int (pwI 4 n), .int (pwI 10 n), .int (nI c), .null, .null] [] Z I J := by
      rcases hn with ⟨q1, q2⟩ | ⟨q1, q2⟩
      · subst q1 q2
        rw [q_127_64]
        simp (decide := true) only [gN1_int, gN1_ref, gN1_null, gN1_long, gTg8_8, gTg8_14, gTg9_9, gTg9_13, gTgA_8, gTgA_9, gTgA_10, gTgA_11, gTgA_13, gTgA_14, gB01_0, gB01_1, gB01_b, List.cons_append, List.nil_append, Option.toList_some, Option.toList_none, Option.bind_some, ↓reduceIte, eq_self, not_true_eq_false, not_false_eq_true, b2i_0, b2i_1, up_eq, up_ne, up_up, up_sort, up_self, fl_at, nI_s, q_127_66, q_127_67, pwI]
      · have := X7_odds_walk (J := J) hZ h hc (g := nI g) (p := 6) (b := 1) n 0 g hg q1 q2
        rw [ha, Nat.zero_add] at this
        exact this
    simp (decide := true) only [gN1_int, gN1_ref, gN1_null, gN1_long, gTg8_8, gTg8_14, gTg9_9, gTg9_13, gTgA_8, gTgA_9, gTgA_10, gTgA_11, gTgA_13, gTgA_14, gB01_0, gB01_1, gB01_b, List.cons_append, List.nil_append, Option.toList_some, Option.toList_none, Option.bind_some, ↓reduceIte, eq_self, not_true_eq_false, not_false_eq_true, b2i_0, b2i_1, up_eq, up_ne, up_up, up_sort, up_self, fl_at, nI_s, q_127_0, q_127_1, q_127_2, q_127_5, q_127_8, q_127_9, q_127_10, q_127_13, q_127_16, q_127_18, q_127_19, q_127_20, q_127_21, q_127_23, q_127_26, q_127_29, q_127_31, q_127_32, q_127_33, q_127_36, q_127_39, q_127_41, q_127_42, q_127_43, q_127_44, q_127_45, q_127_48, q_127_49, q_127_52, q_127_54, q_127_55, q_127_56, q_127_58, q_127_59, q_127_61, q_127_62, zk_38, zs_38_1, zr_38_1, zs_38_2, zr_38_2, zs_38_3, zr_38_3, zs_38_4, zr_38_4, zs_38_8, zr_38_8, zs_38_17, zr_38_17, zs_38_18, zr_38_18, zs_38_19, zr_38_19, zs_38_22, zr_38_22, zs_38_23, zr_38_23, zs_38_25, zr_38_25, zs_38_26, zr_38_26, zs_38_28, zr_38_28, zs_38_29, zr_38_29, hZ, hm_is hZ h (show 1 ≤ N by omega), hm_g h hc, hm_g h hg, X7_in, i1, i2, r1, e, Bool.true_eq_false]
    rw [wk]
    simp (decide := true) only [gN1_int, gN1_ref, gN1_null, gN1_long, gTg8_8, gTg8_14, gTg9_9, gTg9_13, gTgA_8, gTgA_9, gTgA_10, gTgA_11, gTgA_13, gTgA_14, gB01_0, gB01_1, gB01_b, List.cons_append, List.nil_append, Option.toList_some, Option.toList_none, Option.bind_some, ↓reduceIte, eq_self, not_true_eq_false, not_false_eq_true, b2i_0, b2i_1, up_eq, up_ne, up_up, up_sort, up_self, fl_at, nI_s, q_127_98, q_127_100, q_127_102, q_127_104]
    rw [X7_odds_eg e2 60 _ _ _ e1, e3]
theorem odC_7_0 : ∀ n, n < 10 → odC 3 0 3 n = true := by decide +kernel
theorem X7_odds_7_0 (hZ : St Z) (h : HM I N w sl) {c g : Nat} (hc : c < N) (hg : g < N) : (mtF (I 39) (I 40) (I 41) (I 42) w sl N c g = -1 → g_at 127 0 [.ref 38, .int (nI c), .int (nI g), .int 7, .int 0, .null, .null, .null, .null, .null] [] Z I J = some (some (.int 0), Z, I, J)) ∧ (∀ n, ¬ mtF (I 39) (I 40) (I 41) (I 42) w sl N c g = -1 → ((g = c ∧ n = 0) ∨ (g ≠ c ∧ pth (I 39) (I 40) (I 41) w sl c n g)) → g_at 127 0 [.ref 38, .int (nI c), .int (nI g), .int 7, .int 0, .null, .null, .null, .null, .null] [] Z I J = some (some (.int (pwI 3 n)), Z, I, J)) := by
  have i1 : (decide ((0 : Int32) ≤ 7) && decide ((7 : Int32) ≤ 10)) = true := by decide
  have i2 : (decide ((0 : Int32) ≤ 0) && decide ((0 : Int32) ≤ 1)) = true := by decide
  have ha : (10 : Int32) - 7 = 3 := by decide
  have r1 := X7_firstOf (J := J) hZ h hc hg
  refine ⟨fun e => ?_, fun n e hn => ?_⟩
  · simp (decide := true) only [gN1_int, gN1_ref, gN1_null, gN1_long, gTg8_8, gTg8_14, gTg9_9, gTg9_13, gTgA_8, gTgA_9, gTgA_10, gTgA_11, gTgA_13, gTgA_14, gB01_0, gB01_1, gB01_b, List.cons_append, List.nil_append, Option.toList_some, Option.toList_none, Option.bind_some, ↓reduceIte, eq_self, not_true_eq_false, not_false_eq_true, b2i_0, b2i_1, up_eq, up_ne, up_up, up_sort, up_self, fl_at, nI_s, q_127_0, q_127_1, q_127_2, q_127_5, q_127_8, q_127_9, q_127_10, q_127_13, q_127_16, q_127_18, q_127_19, q_127_20, q_127_21, q_127_23, q_127_26, q_127_29, q_127_31, q_127_32, q_127_33, q_127_36, q_127_39, q_127_41, q_127_42, q_127_43, q_127_44, q_127_45, q_127_48, q_127_49, q_127_52, q_127_54, zk_38, zs_38_1, zr_38_1, zs_38_2, zr_38_2, zs_38_3, zr_38_3, zs_38_4, zr_38_4, zs_38_8, zr_38_8, zs_38_17, zr_38_17, zs_38_18, zr_38_18, zs_38_19, zr_38_19, zs_38_22, zr_38_22, zs_38_23, zr_38_23, zs_38_25, zr_38_25, zs_38_26, zr_38_26, zs_38_28, zr_38_28, zs_38_29, zr_38_29, hZ, hm_is hZ h (show 1 ≤ N by omega), hm_g h hc, hm_g h hg, X7_in, i1, i2, r1, e, Bool.true_eq_false]
  · have hN := h.2.1
    have hn9 : n < 10 := by
      rcases hn with ⟨_, q⟩ | ⟨q1, q2⟩
      · omega
      · have := pth_lt h.2.2.1 h.2.1 hc hg q1 q2
        omega
    obtain ⟨r, e1, e2, e3⟩ := odC_ex (odC_7_0 n hn9)
    have wk : g_at 127 64 [.ref 38, .int (nI c), .int (nI g), .int 7, .int 0, .int 1, .int 1, .int (nI g), .null, .null] [] Z I J = g_at 127 98 [.ref 38, .int (nI c), .int (nI g), .int 7, .int 0, .int (pwI 3 n), .int (pwI 10 n), .int (nI c), .null, .null] [] Z I J := by
      rcases hn with ⟨q1, q2⟩ | ⟨q1, q2⟩
      · subst q1 q2
        rw [q_127_64]
        simp (decide := true) only [gN1_int, gN1_ref, gN1_null, gN1_long, gTg8_8, gTg8_14, gTg9_9, gTg9_13, gTgA_8, gTgA_9, gTgA_10, gTgA_11, gTgA_13, gTgA_14, gB01_0, gB01_1, gB01_b, List.cons_append, List.nil_append, Option.toList_some, Option.toList_none, Option.bind_some, ↓reduceIte, eq_self, not_true_eq_false, not_false_eq_true, b2i_0, b2i_1, up_eq, up_ne, up_up, up_sort, up_self, fl_at, nI_s, q_127_66, q_127_67, pwI]
      · have := X7_odds_walk (J := J) hZ h hc (g := nI g) (p := 7) (b := 0) n 0 g hg q1 q2
        rw [ha, Nat.zero_add] at this
        exact this
    simp (decide := true) only [gN1_int, gN1_ref, gN1_null, gN1_long, gTg8_8, gTg8_14, gTg9_9, gTg9_13, gTgA_8, gTgA_9, gTgA_10, gTgA_11, gTgA_13, gTgA_14, gB01_0, gB01_1, gB01_b, List.cons_append, List.nil_append, Option.toList_some, Option.toList_none, Option.bind_some, ↓reduceIte, eq_self, not_true_eq_false, not_false_eq_true, b2i_0, b2i_1, up_eq, up_ne, up_up, up_sort, up_self, fl_at, nI_s, q_127_0, q_127_1, q_127_2, q_127_5, q_127_8, q_127_9, q_127_10, q_127_13, q_127_16, q_127_18, q_127_19, q_127_20, q_127_21, q_127_23, q_127_26, q_127_29, q_127_31, q_127_32, q_127_33, q_127_36, q_127_39, q_127_41, q_127_42, q_127_43, q_127_44, q_127_45, q_127_48, q_127_49, q_127_52, q_127_54, q_127_55, q_127_56, q_127_58, q_127_59, q_127_61, q_127_62, zk_38, zs_38_1, zr_38_1, zs_38_2, zr_38_2, zs_38_3, zr_38_3, zs_38_4, zr_38_4, zs_38_8, zr_38_8, zs_38_17, zr_38_17, zs_38_18, zr_38_18, zs_38_19, zr_38_19, zs_38_22, zr_38_22, zs_38_23, zr_38_23, zs_38_25, zr_38_25, zs_38_26, zr_38_26, zs_38_28, zr_38_28, zs_38_29, zr_38_29, hZ, hm_is hZ h (show 1 ≤ N by omega), hm_g h hc, hm_g h hg, X7_in, i1, i2, r1, e, Bool.true_eq_false]
    rw [wk]
    simp (decide := true) only [gN1_int, gN1_ref, gN1_null, gN1_long, gTg8_8, gTg8_14, gTg9_9, gTg9_13, gTgA_8, gTgA_9, gTgA_10, gTgA_11, gTgA_13, gTgA_14, gB01_0, gB01_1, gB01_b, List.cons_append, List.nil_append, Option.toList_some, Option.toList_none, Option.bind_some, ↓reduceIte, eq_self, not_true_eq_false, not_false_eq_true, b2i_0, b2i_1, up_eq, up_ne, up_up, up_sort, up_self, fl_at, nI_s, q_127_98, q_127_100, q_127_102, q_127_104]
    rw [X7_odds_eg e2 60 _ _ _ e1, e3]
theorem odC_7_1 : ∀ n, n < 10 → odC 3 1 10 n = true := by decide +kernel
theorem X7_odds_7_1 (hZ : St Z) (h : HM I N w sl) {c g : Nat} (hc : c < N) (hg : g < N) : (mtF (I 39) (I 40) (I 41) (I 42) w sl N c g = -1 → g_at 127 0 [.ref 38, .int (nI c), .int (nI g), .int 7, .int 1, .null, .null, .null, .null, .null] [] Z I J = some (some (.int 1), Z, I, J)) ∧ (∀ n, ¬ mtF (I 39) (I 40) (I 41) (I 42) w sl N c g = -1 → ((g = c ∧ n = 0) ∨ (g ≠ c ∧ pth (I 39) (I 40) (I 41) w sl c n g)) → g_at 127 0 [.ref 38, .int (nI c), .int (nI g), .int 7, .int 1, .null, .null, .null, .null, .null] [] Z I J = some (some (.int (pwI 10 n)), Z, I, J)) := by
  have i1 : (decide ((0 : Int32) ≤ 7) && decide ((7 : Int32) ≤ 10)) = true := by decide
  have i2 : (decide ((0 : Int32) ≤ 1) && decide ((1 : Int32) ≤ 1)) = true := by decide
  have ha : (10 : Int32) - 7 = 3 := by decide
  have r1 := X7_firstOf (J := J) hZ h hc hg
  refine ⟨fun e => ?_, fun n e hn => ?_⟩
  · simp (decide := true) only [gN1_int, gN1_ref, gN1_null, gN1_long, gTg8_8, gTg8_14, gTg9_9, gTg9_13, gTgA_8, gTgA_9, gTgA_10, gTgA_11, gTgA_13, gTgA_14, gB01_0, gB01_1, gB01_b, List.cons_append, List.nil_append, Option.toList_some, Option.toList_none, Option.bind_some, ↓reduceIte, eq_self, not_true_eq_false, not_false_eq_true, b2i_0, b2i_1, up_eq, up_ne, up_up, up_sort, up_self, fl_at, nI_s, q_127_0, q_127_1, q_127_2, q_127_5, q_127_8, q_127_9, q_127_10, q_127_13, q_127_16, q_127_18, q_127_19, q_127_20, q_127_21, q_127_23, q_127_26, q_127_29, q_127_31, q_127_32, q_127_33, q_127_36, q_127_39, q_127_41, q_127_42, q_127_43, q_127_44, q_127_45, q_127_48, q_127_49, q_127_52, q_127_54, zk_38, zs_38_1, zr_38_1, zs_38_2, zr_38_2, zs_38_3, zr_38_3, zs_38_4, zr_38_4, zs_38_8, zr_38_8, zs_38_17, zr_38_17, zs_38_18, zr_38_18, zs_38_19, zr_38_19, zs_38_22, zr_38_22, zs_38_23, zr_38_23, zs_38_25, zr_38_25, zs_38_26, zr_38_26, zs_38_28, zr_38_28, zs_38_29, zr_38_29, hZ, hm_is hZ h (show 1 ≤ N by omega), hm_g h hc, hm_g h hg, X7_in, i1, i2, r1, e, Bool.true_eq_false]
  · have hN := h.2.1
    have hn9 : n < 10 := by
      rcases hn with ⟨_, q⟩ | ⟨q1, q2⟩
      · omega
      · have := pth_lt h.2.2.1 h.2.1 hc hg q1 q2
        omega
    obtain ⟨r, e1, e2, e3⟩ := odC_ex (odC_7_1 n hn9)
    have wk : g_at 127 64 [.ref 38, .int (nI c), .int (nI g), .int 7, .int 1, .int 1, .int 1, .int (nI g), .null, .null] [] Z I J = g_at 127 98 [.ref 38, .int (nI c), .int (nI g), .int 7, .int 1, .int (pwI 3 n), .int (pwI 10 n), .int (nI c), .null, .null] [] Z I J := by
      rcases hn with ⟨q1, q2⟩ | ⟨q1, q2⟩
      · subst q1 q2
        rw [q_127_64]
        simp (decide := true) only [gN1_int, gN1_ref, gN1_null, gN1_long, gTg8_8, gTg8_14, gTg9_9, gTg9_13, gTgA_8, gTgA_9, gTgA_10, gTgA_11, gTgA_13, gTgA_14, gB01_0, gB01_1, gB01_b, List.cons_append, List.nil_append, Option.toList_some, Option.toList_none, Option.bind_some, ↓reduceIte, eq_self, not_true_eq_false, not_false_eq_true, b2i_0, b2i_1, up_eq, up_ne, up_up, up_sort, up_self, fl_at, nI_s, q_127_66, q_127_67, pwI]
      · have := X7_odds_walk (J := J) hZ h hc (g := nI g) (p := 7) (b := 1) n 0 g hg q1 q2
        rw [ha, Nat.zero_add] at this
        exact this
    simp (decide := true) only [gN1_int, gN1_ref, gN1_null, gN1_long, gTg8_8, gTg8_14, gTg9_9, gTg9_13, gTgA_8, gTgA_9, gTgA_10, gTgA_11, gTgA_13, gTgA_14, gB01_0, gB01_1, gB01_b, List.cons_append, List.nil_append, Option.toList_some, Option.toList_none, Option.bind_some, ↓reduceIte, eq_self, not_true_eq_false, not_false_eq_true, b2i_0, b2i_1, up_eq, up_ne, up_up, up_sort, up_self, fl_at, nI_s, q_127_0, q_127_1, q_127_2, q_127_5, q_127_8, q_127_9, q_127_10, q_127_13, q_127_16, q_127_18, q_127_19, q_127_20, q_127_21, q_127_23, q_127_26, q_127_29, q_127_31, q_127_32, q_127_33, q_127_36, q_127_39, q_127_41, q_127_42, q_127_43, q_127_44, q_127_45, q_127_48, q_127_49, q_127_52, q_127_54, q_127_55, q_127_56, q_127_58, q_127_59, q_127_61, q_127_62, zk_38, zs_38_1, zr_38_1, zs_38_2, zr_38_2, zs_38_3, zr_38_3, zs_38_4, zr_38_4, zs_38_8, zr_38_8, zs_38_17, zr_38_17, zs_38_18, zr_38_18, zs_38_19, zr_38_19, zs_38_22, zr_38_22, zs_38_23, zr_38_23, zs_38_25, zr_38_25, zs_38_26, zr_38_26, zs_38_28, zr_38_28, zs_38_29, zr_38_29, hZ, hm_is hZ h (show 1 ≤ N by omega), hm_g h hc, hm_g h hg, X7_in, i1, i2, r1, e, Bool.true_eq_false]
    rw [wk]
    simp (decide := true) only [gN1_int, gN1_ref, gN1_null, gN1_long, gTg8_8, gTg8_14, gTg9_9, gTg9_13, gTgA_8, gTgA_9, gTgA_10, gTgA_11, gTgA_13, gTgA_14, gB01_0, gB01_1, gB01_b, List.cons_append, List.nil_append, Option.toList_some, Option.toList_none, Option.bind_some, ↓reduceIte, eq_self, not_true_eq_false, not_false_eq_true, b2i_0, b2i_1, up_eq, up_ne, up_up, up_sort, up_self, fl_at, nI_s, q_127_98, q_127_100, q_127_102, q_127_104]
    rw [X7_odds_eg e2 60 _ _ _ e1, e3]
theorem odC_8_0 : ∀ n, n < 10 → odC 2 0 1 n = true := by decide +kernel
theorem X7_odds_8_0 (hZ : St Z) (h : HM I N w sl) {c g : Nat} (hc : c < N) (hg : g < N) : (mtF (I 39) (I 40) (I 41) (I 42) w sl N c g = -1 → g_at 127 0 [.ref 38, .int (nI c), .int (nI g), .int 8, .int 0, .null, .null, .null, .null, .null] [] Z I J = some (some (.int 0), Z, I, J)) ∧ (∀ n, ¬ mtF (I 39) (I 40) (I 41) (I 42) w sl N c g = -1 → ((g = c ∧ n = 0) ∨ (g ≠ c ∧ pth (I 39) (I 40) (I 41) w sl c n g)) → g_at 127 0 [.ref 38, .int (nI c), .int (nI g), .int 8, .int 0, .null, .null, .null, .null, .null] [] Z I J = some (some (.int (pwI 1 n)), Z, I, J)) := by
  have i1 : (decide ((0 : Int32) ≤ 8) && decide ((8 : Int32) ≤ 10)) = true := by decide
  have i2 : (decide ((0 : Int32) ≤ 0) && decide ((0 : Int32) ≤ 1)) = true := by decide
  have ha : (10 : Int32) - 8 = 2 := by decide
  have r1 := X7_firstOf (J := J) hZ h hc hg
  refine ⟨fun e => ?_, fun n e hn => ?_⟩
  · simp (decide := true) only [gN1_int, gN1_ref, gN1_null, gN1_long, gTg8_8, gTg8_14, gTg9_9, gTg9_13, gTgA_8, gTgA_9, gTgA_10, gTgA_11, gTgA_13, gTgA_14, gB01_0, gB01_1, gB01_b, List.cons_append, List.nil_append, Option.toList_some, Option.toList_none, Option.bind_some, ↓reduceIte, eq_self, not_true_eq_false, not_false_eq_true, b2i_0, b2i_1, up_eq, up_ne, up_up, up_sort, up_self, fl_at, nI_s, q_127_0, q_127_1, q_127_2, q_127_5, q_127_8, q_127_9, q_127_10, q_127_13, q_127_16, q_127_18, q_127_19, q_127_20, q_127_21, q_127_23, q_127_26, q_127_29, q_127_31, q_127_32, q_127_33, q_127_36, q_127_39, q_127_41, q_127_42, q_127_43, q_127_44, q_127_45, q_127_48, q_127_49, q_127_52, q_127_54, zk_38, zs_38_1, zr_38_1, zs_38_2, zr_38_2, zs_38_3, zr_38_3, zs_38_4, zr_38_4, zs_38_8, zr_38_8, zs_38_17, zr_38_17, zs_38_18, zr_38_18, zs_38_19, zr_38_19, zs_38_22, zr_38_22, zs_38_23, zr_38_23, zs_38_25, zr_38_25, zs_38_26, zr_38_26, zs_38_28, zr_38_28, zs_38_29, zr_38_29, hZ, hm_is hZ h (show 1 ≤ N by omega), hm_g h hc, hm_g h hg, X7_in, i1, i2, r1, e, Bool.true_eq_false]
  · have hN := h.2.1
    have hn9 : n < 10 := by
      rcases hn with ⟨_, q⟩ | ⟨q1, q2⟩
      · omega
      · have := pth_lt h.2.2.1 h.2.1 hc hg q1 q2
        omega
    obtain ⟨r, e1, e2, e3⟩ := odC_ex (odC_8_0 n hn9)
    have wk : g_at 127 64 [.ref 38, .int (nI c), .int (nI g), .int 8, .int 0, .int 1, .int 1, .int (nI g), .null, .null] [] Z I J = g_at 127 98 [.ref 38, .int (nI c), .int (nI g), .int 8, .int 0, .int (pwI 2 n), .int (pwI 10 n), .int (nI c), .null, .null] [] Z I J := by
      rcases hn with ⟨q1, q2⟩ | ⟨q1, q2⟩
      · subst q1 q2
        rw [q_127_64]
        simp (decide := true) only [gN1_int, gN1_ref, gN1_null, gN1_long, gTg8_8, gTg8_14, gTg9_9, gTg9_13, gTgA_8, gTgA_9, gTgA_10, gTgA_11, gTgA_13, gTgA_14, gB01_0, gB01_1, gB01_b, List.cons_append, List.nil_append, Option.toList_some, Option.toList_none, Option.bind_some, ↓reduceIte, eq_self, not_true_eq_false, not_false_eq_true, b2i_0, b2i_1, up_eq, up_ne, up_up, up_sort, up_self, fl_at, nI_s, q_127_66, q_127_67, pwI]
      · have := X7_odds_walk (J := J) hZ h hc (g := nI g) (p := 8) (b := 0) n 0 g hg q1 q2
        rw [ha, Nat.zero_add] at this
        exact this
    simp (decide := true) only [gN1_int, gN1_ref, gN1_null, gN1_long, gTg8_8, gTg8_14, gTg9_9, gTg9_13, gTgA_8, gTgA_9, gTgA_10, gTgA_11, gTgA_13, gTgA_14, gB01_0, gB01_1, gB01_b, List.cons_append, List.nil_append, Option.toList_some, Option.toList_none, Option.bind_some, ↓reduceIte, eq_self, not_true_eq_false, not_false_eq_true, b2i_0, b2i_1, up_eq, up_ne, up_up, up_sort, up_self, fl_at, nI_s, q_127_0, q_127_1, q_127_2, q_127_5, q_127_8, q_127_9, q_127_10, q_127_13, q_127_16, q_127_18, q_127_19, q_127_20, q_127_21, q_127_23, q_127_26, q_127_29, q_127_31, q_127_32, q_127_33, q_127_36, q_127_39, q_127_41, q_127_42, q_127_43, q_127_44, q_127_45, q_127_48, q_127_49, q_127_52, q_127_54, q_127_55, q_127_56, q_127_58, q_127_59, q_127_61, q_127_62, zk_38, zs_38_1, zr_38_1, zs_38_2, zr_38_2, zs_38_3, zr_38_3, zs_38_4, zr_38_4, zs_38_8, zr_38_8, zs_38_17, zr_38_17, zs_38_18, zr_38_18, zs_38_19, zr_38_19, zs_38_22, zr_38_22, zs_38_23, zr_38_23, zs_38_25, zr_38_25, zs_38_26, zr_38_26, zs_38_28, zr_38_28, zs_38_29, zr_38_29, hZ, hm_is hZ h (show 1 ≤ N by omega), hm_g h hc, hm_g h hg, X7_in, i1, i2, r1, e, Bool.true_eq_false]
    rw [wk]
    simp (decide := true) only [gN1_int, gN1_ref, gN1_null, gN1_long, gTg8_8, gTg8_14, gTg9_9, gTg9_13, gTgA_8, gTgA_9, gTgA_10, gTgA_11, gTgA_13, gTgA_14, gB01_0, gB01_1, gB01_b, List.cons_append, List.nil_append, Option.toList_some, Option.toList_none, Option.bind_some, ↓reduceIte, eq_self, not_true_eq_false, not_false_eq_true, b2i_0, b2i_1, up_eq, up_ne, up_up, up_sort, up_self, fl_at, nI_s, q_127_98, q_127_100, q_127_102, q_127_104]
    rw [X7_odds_eg e2 60 _ _ _ e1, e3]
theorem odC_8_1 : ∀ n, n < 10 → odC 2 1 5 n = true := by decide +kernel
theorem X7_odds_8_1 (hZ : St Z) (h : HM I N w sl) {c g : Nat} (hc : c < N) (hg : g < N) : (mtF (I 39) (I 40) (I 41) (I 42) w sl N c g = -1 → g_at 127 0 [.ref 38, .int (nI c), .int (nI g), .int 8, .int 1, .null, .null, .null, .null, .null] [] Z I J = some (some (.int 1), Z, I, J)) ∧ (∀ n, ¬ mtF (I 39) (I 40) (I 41) (I 42) w sl N c g = -1 → ((g = c ∧ n = 0) ∨ (g ≠ c ∧ pth (I 39) (I 40) (I 41) w sl c n g)) → g_at 127 0 [.ref 38, .int (nI c), .int (nI g), .int 8, .int 1, .null, .null, .null, .null, .null] [] Z I J = some (some (.int (pwI 5 n)), Z, I, J)) := by
  have i1 : (decide ((0 : Int32) ≤ 8) && decide ((8 : Int32) ≤ 10)) = true := by decide
  have i2 : (decide ((0 : Int32) ≤ 1) && decide ((1 : Int32) ≤ 1)) = true := by decide
  have ha : (10 : Int32) - 8 = 2 := by decide
  have r1 := X7_firstOf (J := J) hZ h hc hg
  refine ⟨fun e => ?_, fun n e hn => ?_⟩
  · simp (decide := true) only [gN1_int, gN1_ref, gN1_null, gN1_long, gTg8_8, gTg8_14, gTg9_9, gTg9_13, gTgA_8, gTgA_9, gTgA_10, gTgA_11, gTgA_13, gTgA_14, gB01_0, gB01_1, gB01_b, List.cons_append, List.nil_append, Option.toList_some, Option.toList_none, Option.bind_some, ↓reduceIte, eq_self, not_true_eq_false, not_false_eq_true, b2i_0, b2i_1, up_eq, up_ne, up_up, up_sort, up_self, fl_at, nI_s, q_127_0, q_127_1, q_127_2, q_127_5, q_127_8, q_127_9, q_127_10, q_127_13, q_127_16, q_127_18, q_127_19, q_127_20, q_127_21, q_127_23, q_127_26, q_127_29, q_127_31, q_127_32, q_127_33, q_127_36, q_127_39, q_127_41, q_127_42, q_127_43, q_127_44, q_127_45, q_127_48, q_127_49, q_127_52, q_127_54, zk_38, zs_38_1, zr_38_1, zs_38_2, zr_38_2, zs_38_3, zr_38_3, zs_38_4, zr_38_4, zs_38_8, zr_38_8, zs_38_17, zr_38_17, zs_38_18, zr_38_18, zs_38_19, zr_38_19, zs_38_22, zr_38_22, zs_38_23, zr_38_23, zs_38_25, zr_38_25, zs_38_26, zr_38_26, zs_38_28, zr_38_28, zs_38_29, zr_38_29, hZ, hm_is hZ h (show 1 ≤ N by omega), hm_g h hc, hm_g h hg, X7_in, i1, i2, r1, e, Bool.true_eq_false]
  · have hN := h.2.1
    have hn9 : n < 10 := by
      rcases hn with ⟨_, q⟩ | ⟨q1, q2⟩
      · omega
      · have := pth_lt h.2.2.1 h.2.1 hc hg q1 q2
        omega
    obtain ⟨r, e1, e2, e3⟩ := odC_ex (odC_8_1 n hn9)
    have wk : g_at 127 64 [.ref 38, .int (nI c), .int (nI g), .int 8, .int 1, .int 1, .int 1, .int (nI g), .null, .null] [] Z I J = g_at 127 98 [.ref 38, .int (nI c), .int (nI g), .int 8, .int 1, .int (pwI 2 n), .int (pwI 10 n), .int (nI c), .null, .null] [] Z I J := by
      rcases hn with ⟨q1, q2⟩ | ⟨q1, q2⟩
      · subst q1 q2
        rw [q_127_64]
        simp (decide := true) only [gN1_int, gN1_ref, gN1_null, gN1_long, gTg8_8, gTg8_14, gTg9_9, gTg9_13, gTgA_8, gTgA_9, gTgA_10, gTgA_11, gTgA_13, gTgA_14, gB01_0, gB01_1, gB01_b, List.cons_append, List.nil_append, Option.toList_some, Option.toList_none, Option.bind_some, ↓reduceIte, eq_self, not_true_eq_false, not_false_eq_true, b2i_0, b2i_1, up_eq, up_ne, up_up, up_sort, up_self, fl_at, nI_s, q_127_66, q_127_67, pwI]
      · have := X7_odds_walk (J := J) hZ h hc (g := nI g) (p := 8) (b := 1) n 0 g hg q1 q2
        rw [ha, Nat.zero_add] at this
        exact this
    simp (decide := true) only [gN1_int, gN1_ref, gN1_null, gN1_long, gTg8_8, gTg8_14, gTg9_9, gTg9_13, gTgA_8, gTgA_9, gTgA_10, gTgA_11, gTgA_13, gTgA_14, gB01_0, gB01_1, gB01_b, List.cons_append, List.nil_append, Option.toList_some, Option.toList_none, Option.bind_some, ↓reduceIte, eq_self, not_true_eq_false, not_false_eq_true, b2i_0, b2i_1, up_eq, up_ne, up_up, up_sort, up_self, fl_at, nI_s, q_127_0, q_127_1, q_127_2, q_127_5, q_127_8, q_127_9, q_127_10, q_127_13, q_127_16, q_127_18, q_127_19, q_127_20, q_127_21, q_127_23, q_127_26, q_127_29, q_127_31, q_127_32, q_127_33, q_127_36, q_127_39, q_127_41, q_127_42, q_127_43, q_127_44, q_127_45, q_127_48, q_127_49, q_127_52, q_127_54, q_127_55, q_127_56, q_127_58, q_127_59, q_127_61, q_127_62, zk_38, zs_38_1, zr_38_1, zs_38_2, zr_38_2, zs_38_3, zr_38_3, zs_38_4, zr_38_4, zs_38_8, zr_38_8, zs_38_17, zr_38_17, zs_38_18, zr_38_18, zs_38_19, zr_38_19, zs_38_22, zr_38_22, zs_38_23, zr_38_23, zs_38_25, zr_38_25, zs_38_26, zr_38_26, zs_38_28, zr_38_28, zs_38_29, zr_38_29, hZ, hm_is hZ h (show 1 ≤ N by omega), hm_g h hc, hm_g h hg, X7_in, i1, i2, r1, e, Bool.true_eq_false]
    rw [wk]
    simp (decide := true) only [gN1_int, gN1_ref, gN1_null, gN1_long, gTg8_8, gTg8_14, gTg9_9, gTg9_13, gTgA_8, gTgA_9, gTgA_10, gTgA_11, gTgA_13, gTgA_14, gB01_0, gB01_1, gB01_b, List.cons_append, List.nil_append, Option.toList_some, Option.toList_none, Option.bind_some, ↓reduceIte, eq_self, not_true_eq_false, not_false_eq_true, b2i_0, b2i_1, up_eq, up_ne, up_up, up_sort, up_self, fl_at, nI_s, q_127_98, q_127_100, q_127_102, q_127_104]
    rw [X7_odds_eg e2 60 _ _ _ e1, e3]
theorem odC_9_0 : ∀ n, n < 10 → odC 1 0 1 n = true := by decide +kernel
theorem X7_odds_9_0 (hZ : St Z) (h : HM I N w sl) {c g : Nat} (hc : c < N) (hg : g < N) : (mtF (I 39) (I 40) (I 41) (I 42) w sl N c g = -1 → g_at 127 0 [.ref 38, .int (nI c), .int (nI g), .int 9, .int 0, .null, .null, .null, .null, .null] [] Z I J = some (some (.int 0), Z, I, J)) ∧ (∀ n, ¬ mtF (I 39) (I 40) (I 41) (I 42) w sl N c g = -1 → ((g = c ∧ n = 0) ∨ (g ≠ c ∧ pth (I 39) (I 40) (I 41) w sl c n g)) → g_at 127 0 [.ref 38, .int (nI c), .int (nI g), .int 9, .int 0, .null, .null, .null, .null, .null] [] Z I J = some (some (.int (pwI 1 n)), Z, I, J)) := by
  have i1 : (decide ((0 : Int32) ≤ 9) && decide ((9 : Int32) ≤ 10)) = true := by decide
  have i2 : (decide ((0 : Int32) ≤ 0) && decide ((0 : Int32) ≤ 1)) = true := by decide
  have ha : (10 : Int32) - 9 = 1 := by decide
  have r1 := X7_firstOf (J := J) hZ h hc hg
  refine ⟨fun e => ?_, fun n e hn => ?_⟩
  · simp (decide := true) only [gN1_int, gN1_ref, gN1_null, gN1_long, gTg8_8, gTg8_14, gTg9_9, gTg9_13, gTgA_8, gTgA_9, gTgA_10, gTgA_11, gTgA_13, gTgA_14, gB01_0, gB01_1, gB01_b, List.cons_append, List.nil_append, Option.toList_some, Option.toList_none, Option.bind_some, ↓reduceIte, eq_self, not_true_eq_false, not_false_eq_true, b2i_0, b2i_1, up_eq, up_ne, up_up, up_sort, up_self, fl_at, nI_s, q_127_0, q_127_1, q_127_2, q_127_5, q_127_8, q_127_9, q_127_10, q_127_13, q_127_16, q_127_18, q_127_19, q_127_20, q_127_21, q_127_23, q_127_26, q_127_29, q_127_31, q_127_32, q_127_33, q_127_36, q_127_39, q_127_41, q_127_42, q_127_43, q_127_44, q_127_45, q_127_48, q_127_49, q_127_52, q_127_54, zk_38, zs_38_1, zr_38_1, zs_38_2, zr_38_2, zs_38_3, zr_38_3, zs_38_4, zr_38_4, zs_38_8, zr_38_8, zs_38_17, zr_38_17, zs_38_18, zr_38_18, zs_38_19, zr_38_19, zs_38_22, zr_38_22, zs_38_23, zr_38_23, zs_38_25, zr_38_25, zs_38_26, zr_38_26, zs_38_28, zr_38_28, zs_38_29, zr_38_29, hZ, hm_is hZ h (show 1 ≤ N by omega), hm_g h hc, hm_g h hg, X7_in, i1, i2, r1, e, Bool.true_eq_false]
  · have hN := h.2.1
    have hn9 : n < 10 := by
      rcases hn with ⟨_, q⟩ | ⟨q1, q2⟩
      · omega
      · have := pth_lt h.2.2.1 h.2.1 hc hg q1 q2
        omega
    obtain ⟨r, e1, e2, e3⟩ := odC_ex (odC_9_0 n hn9)
    have wk : g_at 127 64 [.ref 38, .int (nI c), .int (nI g), .int 9, .int 0, .int 1, .int 1, .int (nI g), .null, .null] [] Z I J = g_at 127 98 [.ref 38, .int (nI c), .int (nI g), .int 9, .int 0, .int (pwI 1 n), .int (pwI 10 n), .int (nI c), .null, .null] [] Z I J := by
      rcases hn with ⟨q1, q2⟩ | ⟨q1, q2⟩
      · subst q1 q2
        rw [q_127_64]
        simp (decide := true) only [gN1_int, gN1_ref, gN1_null, gN1_long, gTg8_8, gTg8_14, gTg9_9, gTg9_13, gTgA_8, gTgA_9, gTgA_10, gTgA_11, gTgA_13, gTgA_14, gB01_0, gB01_1, gB01_b, List.cons_append, List.nil_append, Option.toList_some, Option.toList_none, Option.bind_some, ↓reduceIte, eq_self, not_true_eq_false, not_false_eq_true, b2i_0, b2i_1, up_eq, up_ne, up_up, up_sort, up_self, fl_at, nI_s, q_127_66, q_127_67, pwI]
      · have := X7_odds_walk (J := J) hZ h hc (g := nI g) (p := 9) (b := 0) n 0 g hg q1 q2
        rw [ha, Nat.zero_add] at this
        exact this
    simp (decide := true) only [gN1_int, gN1_ref, gN1_null, gN1_long, gTg8_8, gTg8_14, gTg9_9, gTg9_13, gTgA_8, gTgA_9, gTgA_10, gTgA_11, gTgA_13, gTgA_14, gB01_0, gB01_1, gB01_b, List.cons_append, List.nil_append, Option.toList_some, Option.toList_none, Option.bind_some, ↓reduceIte, eq_self, not_true_eq_false, not_false_eq_true, b2i_0, b2i_1, up_eq, up_ne, up_up, up_sort, up_self, fl_at, nI_s, q_127_0, q_127_1, q_127_2, q_127_5, q_127_8, q_127_9, q_127_10, q_127_13, q_127_16, q_127_18, q_127_19, q_127_20, q_127_21, q_127_23, q_127_26, q_127_29, q_127_31, q_127_32, q_127_33, q_127_36, q_127_39, q_127_41, q_127_42, q_127_43, q_127_44, q_127_45, q_127_48, q_127_49, q_127_52, q_127_54, q_127_55, q_127_56, q_127_58, q_127_59, q_127_61, q_127_62, zk_38, zs_38_1, zr_38_1, zs_38_2, zr_38_2, zs_38_3, zr_38_3, zs_38_4, zr_38_4, zs_38_8, zr_38_8, zs_38_17, zr_38_17, zs_38_18, zr_38_18, zs_38_19, zr_38_19, zs_38_22, zr_38_22, zs_38_23, zr_38_23, zs_38_25, zr_38_25, zs_38_26, zr_38_26, zs_38_28, zr_38_28, zs_38_29, zr_38_29, hZ, hm_is hZ h (show 1 ≤ N by omega), hm_g h hc, hm_g h hg, X7_in, i1, i2, r1, e, Bool.true_eq_false]
    rw [wk]
    simp (decide := true) only [gN1_int, gN1_ref, gN1_null, gN1_long, gTg8_8, gTg8_14, gTg9_9, gTg9_13, gTgA_8, gTgA_9, gTgA_10, gTgA_11, gTgA_13, gTgA_14, gB01_0, gB01_1, gB01_b, List.cons_append, List.nil_append, Option.toList_some, Option.toList_none, Option.bind_some, ↓reduceIte, eq_self, not_true_eq_false, not_false_eq_true, b2i_0, b2i_1, up_eq, up_ne, up_up, up_sort, up_self, fl_at, nI_s, q_127_98, q_127_100, q_127_102, q_127_104]
    rw [X7_odds_eg e2 60 _ _ _ e1, e3]
theorem odC_9_1 : ∀ n, n < 10 → odC 1 1 10 n = true := by decide +kernel
theorem X7_odds_9_1 (hZ : St Z) (h : HM I N w sl) {c g : Nat} (hc : c < N) (hg : g < N) : (mtF (I 39) (I 40) (I 41) (I 42) w sl N c g = -1 → g_at 127 0 [.ref 38, .int (nI c), .int (nI g), .int 9, .int 1, .null, .null, .null, .null, .null] [] Z I J = some (some (.int 1), Z, I, J)) ∧ (∀ n, ¬ mtF (I 39) (I 40) (I 41) (I 42) w sl N c g = -1 → ((g = c ∧ n = 0) ∨ (g ≠ c ∧ pth (I 39) (I 40) (I 41) w sl c n g)) → g_at 127 0 [.ref 38, .int (nI c), .int (nI g), .int 9, .int 1, .null, .null, .null, .null, .null] [] Z I J = some (some (.int (pwI 10 n)), Z, I, J)) := by
  have i1 : (decide ((0 : Int32) ≤ 9) && decide ((9 : Int32) ≤ 10)) = true := by decide
  have i2 : (decide ((0 : Int32) ≤ 1) && decide ((1 : Int32) ≤ 1)) = true := by decide
  have ha : (10 : Int32) - 9 = 1 := by decide
  have r1 := X7_firstOf (J := J) hZ h hc hg
  refine ⟨fun e => ?_, fun n e hn => ?_⟩
  · simp (decide := true) only [gN1_int, gN1_ref, gN1_null, gN1_long, gTg8_8, gTg8_14, gTg9_9, gTg9_13, gTgA_8, gTgA_9, gTgA_10, gTgA_11, gTgA_13, gTgA_14, gB01_0, gB01_1, gB01_b, List.cons_append, List.nil_append, Option.toList_some, Option.toList_none, Option.bind_some, ↓reduceIte, eq_self, not_true_eq_false, not_false_eq_true, b2i_0, b2i_1, up_eq, up_ne, up_up, up_sort, up_self, fl_at, nI_s, q_127_0, q_127_1, q_127_2, q_127_5, q_127_8, q_127_9, q_127_10, q_127_13, q_127_16, q_127_18, q_127_19, q_127_20, q_127_21, q_127_23, q_127_26, q_127_29, q_127_31, q_127_32, q_127_33, q_127_36, q_127_39, q_127_41, q_127_42, q_127_43, q_127_44, q_127_45, q_127_48, q_127_49, q_127_52, q_127_54, zk_38, zs_38_1, zr_38_1, zs_38_2, zr_38_2, zs_38_3, zr_38_3, zs_38_4, zr_38_4, zs_38_8, zr_38_8, zs_38_17, zr_38_17, zs_38_18, zr_38_18, zs_38_19, zr_38_19, zs_38_22, zr_38_22, zs_38_23, zr_38_23, zs_38_25, zr_38_25, zs_38_26, zr_38_26, zs_38_28, zr_38_28, zs_38_29, zr_38_29, hZ, hm_is hZ h (show 1 ≤ N by omega), hm_g h hc, hm_g h hg, X7_in, i1, i2, r1, e, Bool.true_eq_false]
  · have hN := h.2.1
    have hn9 : n < 10 := by
      rcases hn with ⟨_, q⟩ | ⟨q1, q2⟩
      · omega
      · have := pth_lt h.2.2.1 h.2.1 hc hg q1 q2
        omega
    obtain ⟨r, e1, e2, e3⟩ := odC_ex (odC_9_1 n hn9)
    have wk : g_at 127 64 [.ref 38, .int (nI c), .int (nI g), .int 9, .int 1, .int 1, .int 1, .int (nI g), .null, .null] [] Z I J = g_at 127 98 [.ref 38, .int (nI c), .int (nI g), .int 9, .int 1, .int (pwI 1 n), .int (pwI 10 n), .int (nI c), .null, .null] [] Z I J := by
      rcases hn with ⟨q1, q2⟩ | ⟨q1, q2⟩
      · subst q1 q2
        rw [q_127_64]
        simp (decide := true) only [gN1_int, gN1_ref, gN1_null, gN1_long, gTg8_8, gTg8_14, gTg9_9, gTg9_13, gTgA_8, gTgA_9, gTgA_10, gTgA_11, gTgA_13, gTgA_14, gB01_0, gB01_1, gB01_b, List.cons_append, List.nil_append, Option.toList_some, Option.toList_none, Option.bind_some, ↓reduceIte, eq_self, not_true_eq_false, not_false_eq_true, b2i_0, b2i_1, up_eq, up_ne, up_up, up_sort, up_self, fl_at, nI_s, q_127_66, q_127_67, pwI]
      · have := X7_odds_walk (J := J) hZ h hc (g := nI g) (p := 9) (b := 1) n 0 g hg q1 q2
        rw [ha, Nat.zero_add] at this
        exact this
    simp (decide := true) only [gN1_int, gN1_ref, gN1_null, gN1_long, gTg8_8, gTg8_14, gTg9_9, gTg9_13, gTgA_8, gTgA_9, gTgA_10, gTgA_11, gTgA_13, gTgA_14, gB01_0, gB01_1, gB01_b, List.cons_append, List.nil_append, Option.toList_some, Option.toList_none, Option.bind_some, ↓reduceIte, eq_self, not_true_eq_false, not_false_eq_true, b2i_0, b2i_1, up_eq, up_ne, up_up, up_sort, up_self, fl_at, nI_s, q_127_0, q_127_1, q_127_2, q_127_5, q_127_8, q_127_9, q_127_10, q_127_13, q_127_16, q_127_18, q_127_19, q_127_20, q_127_21, q_127_23, q_127_26, q_127_29, q_127_31, q_127_32, q_127_33, q_127_36, q_127_39, q_127_41, q_127_42, q_127_43, q_127_44, q_127_45, q_127_48, q_127_49, q_127_52, q_127_54, q_127_55, q_127_56, q_127_58, q_127_59, q_127_61, q_127_62, zk_38, zs_38_1, zr_38_1, zs_38_2, zr_38_2, zs_38_3, zr_38_3, zs_38_4, zr_38_4, zs_38_8, zr_38_8, zs_38_17, zr_38_17, zs_38_18, zr_38_18, zs_38_19, zr_38_19, zs_38_22, zr_38_22, zs_38_23, zr_38_23, zs_38_25, zr_38_25, zs_38_26, zr_38_26, zs_38_28, zr_38_28, zs_38_29, zr_38_29, hZ, hm_is hZ h (show 1 ≤ N by omega), hm_g h hc, hm_g h hg, X7_in, i1, i2, r1, e, Bool.true_eq_false]
    rw [wk]
    simp (decide := true) only [gN1_int, gN1_ref, gN1_null, gN1_long, gTg8_8, gTg8_14, gTg9_9, gTg9_13, gTgA_8, gTgA_9, gTgA_10, gTgA_11, gTgA_13, gTgA_14, gB01_0, gB01_1, gB01_b, List.cons_append, List.nil_append, Option.toList_some, Option.toList_none, Option.bind_some, ↓reduceIte, eq_self, not_true_eq_false, not_false_eq_true, b2i_0, b2i_1, up_eq, up_ne, up_up, up_sort, up_self, fl_at, nI_s, q_127_98, q_127_100, q_127_102, q_127_104]
    rw [X7_odds_eg e2 60 _ _ _ e1, e3]
theorem odC_10_0 : ∀ n, n < 10 → odC 0 0 0 n = true := by decide +kernel
theorem X7_odds_10_0 (hZ : St Z) (h : HM I N w sl) {c g : Nat} (hc : c < N) (hg : g < N) : (mtF (I 39) (I 40) (I 41) (I 42) w sl N c g = -1 → g_at 127 0 [.ref 38, .int (nI c), .int (nI g), .int 10, .int 0, .null, .null, .null, .null, .null] [] Z I J = some (some (.int 0), Z, I, J)) ∧ (∀ n, ¬ mtF (I 39) (I 40) (I 41) (I 42) w sl N c g = -1 → ((g = c ∧ n = 0) ∨ (g ≠ c ∧ pth (I 39) (I 40) (I 41) w sl c n g)) → g_at 127 0 [.ref 38, .int (nI c), .int (nI g), .int 10, .int 0, .null, .null, .null, .null, .null] [] Z I J = some (some (.int (pwI 0 n)), Z, I, J)) := by
  have i1 : (decide ((0 : Int32) ≤ 10) && decide ((10 : Int32) ≤ 10)) = true := by decide
  have i2 : (decide ((0 : Int32) ≤ 0) && decide ((0 : Int32) ≤ 1)) = true := by decide
  have ha : (10 : Int32) - 10 = 0 := by decide
  have r1 := X7_firstOf (J := J) hZ h hc hg
  refine ⟨fun e => ?_, fun n e hn => ?_⟩
  · simp (decide := true) only [gN1_int, gN1_ref, gN1_null, gN1_long, gTg8_8, gTg8_14, gTg9_9, gTg9_13, gTgA_8, gTgA_9, gTgA_10, gTgA_11, gTgA_13, gTgA_14, gB01_0, gB01_1, gB01_b, List.cons_append, List.nil_append, Option.toList_some, Option.toList_none, Option.bind_some, ↓reduceIte, eq_self, not_true_eq_false, not_false_eq_true, b2i_0, b2i_1, up_eq, up_ne, up_up, up_sort, up_self, fl_at, nI_s, q_127_0, q_127_1, q_127_2, q_127_5, q_127_8, q_127_9, q_127_10, q_127_13, q_127_16, q_127_18, q_127_19, q_127_20, q_127_21, q_127_23, q_127_26, q_127_29, q_127_31, q_127_32, q_127_33, q_127_36, q_127_39, q_127_41, q_127_42, q_127_43, q_127_44, q_127_45, q_127_48, q_127_49, q_127_52, q_127_54, zk_38, zs_38_1, zr_38_1, zs_38_2, zr_38_2, zs_38_3, zr_38_3, zs_38_4, zr_38_4, zs_38_8, zr_38_8, zs_38_17, zr_38_17, zs_38_18, zr_38_18, zs_38_19, zr_38_19, zs_38_22, zr_38_22, zs_38_23, zr_38_23, zs_38_25, zr_38_25, zs_38_26, zr_38_26, zs_38_28, zr_38_28, zs_38_29, zr_38_29, hZ, hm_is hZ h (show 1 ≤ N by omega), hm_g h hc, hm_g h hg, X7_in, i1, i2, r1, e, Bool.true_eq_false]
  · have hN := h.2.1
    have hn9 : n < 10 := by
      rcases hn with ⟨_, q⟩ | ⟨q1, q2⟩
      · omega
      · have := pth_lt h.2.2.1 h.2.1 hc hg q1 q2
        omega
    obtain ⟨r, e1, e2, e3⟩ := odC_ex (odC_10_0 n hn9)
    have wk : g_at 127 64 [.ref 38, .int (nI c), .int (nI g), .int 10, .int 0, .int 1, .int 1, .int (nI g), .null, .null] [] Z I J = g_at 127 98 [.ref 38, .int (nI c), .int (nI g), .int 10, .int 0, .int (pwI 0 n), .int (pwI 10 n), .int (nI c), .null, .null] [] Z I J := by
      rcases hn with ⟨q1, q2⟩ | ⟨q1, q2⟩
      · subst q1 q2
        rw [q_127_64]
        simp (decide := true) only [gN1_int, gN1_ref, gN1_null, gN1_long, gTg8_8, gTg8_14, gTg9_9, gTg9_13, gTgA_8, gTgA_9, gTgA_10, gTgA_11, gTgA_13, gTgA_14, gB01_0, gB01_1, gB01_b, List.cons_append, List.nil_append, Option.toList_some, Option.toList_none, Option.bind_some, ↓reduceIte, eq_self, not_true_eq_false, not_false_eq_true, b2i_0, b2i_1, up_eq, up_ne, up_up, up_sort, up_self, fl_at, nI_s, q_127_66, q_127_67, pwI]
      · have := X7_odds_walk (J := J) hZ h hc (g := nI g) (p := 10) (b := 0) n 0 g hg q1 q2
        rw [ha, Nat.zero_add] at this
        exact this
    simp (decide := true) only [gN1_int, gN1_ref, gN1_null, gN1_long, gTg8_8, gTg8_14, gTg9_9, gTg9_13, gTgA_8, gTgA_9, gTgA_10, gTgA_11, gTgA_13, gTgA_14, gB01_0, gB01_1, gB01_b, List.cons_append, List.nil_append, Option.toList_some, Option.toList_none, Option.bind_some, ↓reduceIte, eq_self, not_true_eq_false, not_false_eq_true, b2i_0, b2i_1, up_eq, up_ne, up_up, up_sort, up_self, fl_at, nI_s, q_127_0, q_127_1, q_127_2, q_127_5, q_127_8, q_127_9, q_127_10, q_127_13, q_127_16, q_127_18, q_127_19, q_127_20, q_127_21, q_127_23, q_127_26, q_127_29, q_127_31, q_127_32, q_127_33, q_127_36, q_127_39, q_127_41, q_127_42, q_127_43, q_127_44, q_127_45, q_127_48, q_127_49, q_127_52, q_127_54, q_127_55, q_127_56, q_127_58, q_127_59, q_127_61, q_127_62, zk_38, zs_38_1, zr_38_1, zs_38_2, zr_38_2, zs_38_3, zr_38_3, zs_38_4, zr_38_4, zs_38_8, zr_38_8, zs_38_17, zr_38_17, zs_38_18, zr_38_18, zs_38_19, zr_38_19, zs_38_22, zr_38_22, zs_38_23, zr_38_23, zs_38_25, zr_38_25, zs_38_26, zr_38_26, zs_38_28, zr_38_28, zs_38_29, zr_38_29, hZ, hm_is hZ h (show 1 ≤ N by omega), hm_g h hc, hm_g h hg, X7_in, i1, i2, r1, e, Bool.true_eq_false]
    rw [wk]
    simp (decide := true) only [gN1_int, gN1_ref, gN1_null, gN1_long, gTg8_8, gTg8_14, gTg9_9, gTg9_13, gTgA_8, gTgA_9, gTgA_10, gTgA_11, gTgA_13, gTgA_14, gB01_0, gB01_1, gB01_b, List.cons_append, List.nil_append, Option.toList_some, Option.toList_none, Option.bind_some, ↓reduceIte, eq_self, not_true_eq_false, not_false_eq_true, b2i_0, b2i_1, up_eq, up_ne, up_up, up_sort, up_self, fl_at, nI_s, q_127_98, q_127_100, q_127_102, q_127_104]
    rw [X7_odds_eg e2 60 _ _ _ e1, e3]
theorem odC_10_1 : ∀ n, n < 10 → odC 0 1 1 n = true := by decide +kernel
theorem X7_odds_10_1 (hZ : St Z) (h : HM I N w sl) {c g : Nat} (hc : c < N) (hg : g < N) : (mtF (I 39) (I 40) (I 41) (I 42) w sl N c g = -1 → g_at 127 0 [.ref 38, .int (nI c), .int (nI g), .int 10, .int 1, .null, .null, .null, .null, .null] [] Z I J = some (some (.int 1), Z, I, J)) ∧ (∀ n, ¬ mtF (I 39) (I 40) (I 41) (I 42) w sl N c g = -1 → ((g = c ∧ n = 0) ∨ (g ≠ c ∧ pth (I 39) (I 40) (I 41) w sl c n g)) → g_at 127 0 [.ref 38, .int (nI c), .int (nI g), .int 10, .int 1, .null, .null, .null, .null, .null] [] Z I J = some (some (.int (pwI 1 n)), Z, I, J)) := by
  have i1 : (decide ((0 : Int32) ≤ 10) && decide ((10 : Int32) ≤ 10)) = true := by decide
  have i2 : (decide ((0 : Int32) ≤ 1) && decide ((1 : Int32) ≤ 1)) = true := by decide
  have ha : (10 : Int32) - 10 = 0 := by decide
  have r1 := X7_firstOf (J := J) hZ h hc hg
  refine ⟨fun e => ?_, fun n e hn => ?_⟩
  · simp (decide := true) only [gN1_int, gN1_ref, gN1_null, gN1_long, gTg8_8, gTg8_14, gTg9_9, gTg9_13, gTgA_8, gTgA_9, gTgA_10, gTgA_11, gTgA_13, gTgA_14, gB01_0, gB01_1, gB01_b, List.cons_append, List.nil_append, Option.toList_some, Option.toList_none, Option.bind_some, ↓reduceIte, eq_self, not_true_eq_false, not_false_eq_true, b2i_0, b2i_1, up_eq, up_ne, up_up, up_sort, up_self, fl_at, nI_s, q_127_0, q_127_1, q_127_2, q_127_5, q_127_8, q_127_9, q_127_10, q_127_13, q_127_16, q_127_18, q_127_19, q_127_20, q_127_21, q_127_23, q_127_26, q_127_29, q_127_31, q_127_32, q_127_33, q_127_36, q_127_39, q_127_41, q_127_42, q_127_43, q_127_44, q_127_45, q_127_48, q_127_49, q_127_52, q_127_54, zk_38, zs_38_1, zr_38_1, zs_38_2, zr_38_2, zs_38_3, zr_38_3, zs_38_4, zr_38_4, zs_38_8, zr_38_8, zs_38_17, zr_38_17, zs_38_18, zr_38_18, zs_38_19, zr_38_19, zs_38_22, zr_38_22, zs_38_23, zr_38_23, zs_38_25, zr_38_25, zs_38_26, zr_38_26, zs_38_28, zr_38_28, zs_38_29, zr_38_29, hZ, hm_is hZ h (show 1 ≤ N by omega), hm_g h hc, hm_g h hg, X7_in, i1, i2, r1, e, Bool.true_eq_false]
  · have hN := h.2.1
    have hn9 : n < 10 := by
      rcases hn with ⟨_, q⟩ | ⟨q1, q2⟩
      · omega
      · have := pth_lt h.2.2.1 h.2.1 hc hg q1 q2
        omega
    obtain ⟨r, e1, e2, e3⟩ := odC_ex (odC_10_1 n hn9)
    have wk : g_at 127 64 [.ref 38, .int (nI c), .int (nI g), .int 10, .int 1, .int 1, .int 1, .int (nI g), .null, .null] [] Z I J = g_at 127 98 [.ref 38, .int (nI c), .int (nI g), .int 10, .int 1, .int (pwI 0 n), .int (pwI 10 n), .int (nI c), .null, .null] [] Z I J := by
      rcases hn with ⟨q1, q2⟩ | ⟨q1, q2⟩
      · subst q1 q2
        rw [q_127_64]
        simp (decide := true) only [gN1_int, gN1_ref, gN1_null, gN1_long, gTg8_8, gTg8_14, gTg9_9, gTg9_13, gTgA_8, gTgA_9, gTgA_10, gTgA_11, gTgA_13, gTgA_14, gB01_0, gB01_1, gB01_b, List.cons_append, List.nil_append, Option.toList_some, Option.toList_none, Option.bind_some, ↓reduceIte, eq_self, not_true_eq_false, not_false_eq_true, b2i_0, b2i_1, up_eq, up_ne, up_up, up_sort, up_self, fl_at, nI_s, q_127_66, q_127_67, pwI]
      · have := X7_odds_walk (J := J) hZ h hc (g := nI g) (p := 10) (b := 1) n 0 g hg q1 q2
        rw [ha, Nat.zero_add] at this
        exact this
    simp (decide := true) only [gN1_int, gN1_ref, gN1_null, gN1_long, gTg8_8, gTg8_14, gTg9_9, gTg9_13, gTgA_8, gTgA_9, gTgA_10, gTgA_11, gTgA_13, gTgA_14, gB01_0, gB01_1, gB01_b, List.cons_append, List.nil_append, Option.toList_some, Option.toList_none, Option.bind_some, ↓reduceIte, eq_self, not_true_eq_false, not_false_eq_true, b2i_0, b2i_1, up_eq, up_ne, up_up, up_sort, up_self, fl_at, nI_s, q_127_0, q_127_1, q_127_2, q_127_5, q_127_8, q_127_9, q_127_10, q_127_13, q_127_16, q_127_18, q_127_19, q_127_20, q_127_21, q_127_23, q_127_26, q_127_29, q_127_31, q_127_32, q_127_33, q_127_36, q_127_39, q_127_41, q_127_42, q_127_43, q_127_44, q_127_45, q_127_48, q_127_49, q_127_52, q_127_54, q_127_55, q_127_56, q_127_58, q_127_59, q_127_61, q_127_62, zk_38, zs_38_1, zr_38_1, zs_38_2, zr_38_2, zs_38_3, zr_38_3, zs_38_4, zr_38_4, zs_38_8, zr_38_8, zs_38_17, zr_38_17, zs_38_18, zr_38_18, zs_38_19, zr_38_19, zs_38_22, zr_38_22, zs_38_23, zr_38_23, zs_38_25, zr_38_25, zs_38_26, zr_38_26, zs_38_28, zr_38_28, zs_38_29, zr_38_29, hZ, hm_is hZ h (show 1 ≤ N by omega), hm_g h hc, hm_g h hg, X7_in, i1, i2, r1, e, Bool.true_eq_false]
    rw [wk]
    simp (decide := true) only [gN1_int, gN1_ref, gN1_null, gN1_long, gTg8_8, gTg8_14, gTg9_9, gTg9_13, gTgA_8, gTgA_9, gTgA_10, gTgA_11, gTgA_13, gTgA_14, gB01_0, gB01_1, gB01_b, List.cons_append, List.nil_append, Option.toList_some, Option.toList_none, Option.bind_some, ↓reduceIte, eq_self, not_true_eq_false, not_false_eq_true, b2i_0, b2i_1, up_eq, up_ne, up_up, up_sort, up_self, fl_at, nI_s, q_127_98, q_127_100, q_127_102, q_127_104]
    rw [X7_odds_eg e2 60 _ _ _ e1, e3]
end
