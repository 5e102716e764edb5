/-! Text: readOnto -/
section
variable {Z : gZ} {I : gI} {J : gJ}
/-- lines from e on, f at most: all are read, or the place of the fault; the lines -/
def lnsF (t : Nat → Int32) (T : Nat) : Nat → Nat → Int32 → Bool × Nat × List (Nat × Int32 × Int32 × Int32)
  | 0, _, _ => (false, 0, [])
  | f + 1, e, G => if (lnF t T e G).1 = true then (if tkS t T (lnF t T e G).2.1 = T then (true, 0, [(lnF t T e G).2.2]) else if t (tkS t T (lnF t T e G).2.1) = 59 ∧ ¬ f = 0 then ((lnsF t T f (tkN t T (lnF t T e G).2.1) (if (lnF t T e G).2.2.1 = 0 then (lnF t T e G).2.2.2.1 else G)).1, (lnsF t T f (tkN t T (lnF t T e G).2.1) (if (lnF t T e G).2.2.1 = 0 then (lnF t T e G).2.2.2.1 else G)).2.1, (lnF t T e G).2.2 :: (lnsF t T f (tkN t T (lnF t T e G).2.1) (if (lnF t T e G).2.2.1 = 0 then (lnF t T e G).2.2.2.1 else G)).2.2) else (false, tkS t T (lnF t T e G).2.1, [])) else (false, (lnF t T e G).2.1, [])
theorem lns_ok {t : Nat → Int32} {T f e p : Nat} {G G' : Int32} {l : Nat × Int32 × Int32 × Int32} (ho : (lnF t T e G).1 = true) (hp : (lnF t T e G).2.1 = p) (hl : (lnF t T e G).2.2 = l) (hg : (if l.1 = 0 then l.2.1 else G) = G') : lnsF t T (f + 1) e G = if tkS t T p = T then (true, 0, [l]) else if t (tkS t T p) = 59 ∧ ¬ f = 0 then ((lnsF t T f (tkN t T p) G').1, (lnsF t T f (tkN t T p) G').2.1, l :: (lnsF t T f (tkN t T p) G').2.2) else (false, tkS t T p, []) := by
  subst hp hl hg
  rw [lnsF, if_pos ho]
theorem okN_bd {t : Nat → Int32} {T e lo hi : Nat} (h1 : lo < 1000000) (h2 : hi < 1000000) (h : okN t T e (nI lo) (nI hi) = true) : ∃ a, lo ≤ a ∧ a ≤ hi ∧ nuV t T e = nI a := by
  unfold okN at h
  simp only [Bool.and_eq_true, decide_eq_true_eq] at h
  obtain ⟨-, h3, h4⟩ := h
  have h5 : 0 ≤ nuV t T e := Int32.le_trans (nI_pos' (by omega)) h3
  obtain ⟨a, ha, e⟩ := nI_of2 (M := nI hi) (n := hi) (nI_toInt (by omega)) (Int32.not_lt.mpr h5) h4
  rw [e, nI_le_iff h1 (by omega)] at h3
  exact ⟨a, h3, ha, e⟩
/-- a line as it may be read with G gongs -/
def lv (G : Nat) (l : Nat × Int32 × Int32 × Int32) : Prop := (∃ k, 7 ≤ k ∧ k < 10 ∧ l = (k, 0, 0, 0)) ∨ (∃ k a b, 3 ≤ k ∧ k < 7 ∧ a < G ∧ 1 ≤ b ∧ b ≤ 20 ∧ l = (k, nI a, nI b, 0)) ∨ (∃ n, 2 ≤ n ∧ n ≤ 10 ∧ l = (0, nI n, 0, 0)) ∨ (∃ a b c, a < G ∧ b < G ∧ 1 ≤ c ∧ c ≤ 9 ∧ l = (1, nI a, nI b, nI c)) ∨ (∃ a, a < G ∧ l = (2, nI a, 0, 0))
theorem ln_lv {t : Nat → Int32} {T e G : Nat} (he : e ≤ T) (hG1 : 1 ≤ G) (hG2 : G ≤ 10) (h : (lnF t T e (nI G)).1 = true) : lv G (lnF t T e (nI G)).2.2 ∧ (lnF t T e (nI G)).2.1 ≤ T := by
  have hk := wdN_le (t := t) (T := T) (s := tkS t T e) (e := tkN t T e)
  have b1 := (tk_le t he).2.2.2
  have b2 := (tk_le t b1).2.2.2
  have b3 := (tk_le t b2).2.2.2
  have b4 := (tk_le t b3).2.2.2
  revert h
  unfold lnF
  generalize wdN t T (tkS t T e) (tkN t T e) = k at hk
  rcases (by omega : k = 10 ∨ (7 ≤ k ∧ k < 10) ∨ (3 ≤ k ∧ k < 7) ∨ k = 0 ∨ k = 1 ∨ k = 2) with q | q | q | q | q | q
  · rw [if_pos q]
    exact fun z => b_ft z
  · rw [if_neg (show ¬ k = 10 by omega), if_pos q.1]
    exact fun _ => ⟨Or.inl ⟨k, q.1, q.2, rfl⟩, b1⟩
  · rw [if_neg (show ¬ k = 10 by omega), if_neg (show ¬ 7 ≤ k by omega), if_pos q.1]
    by_cases o1 : okN t T (tkN t T e) 0 (nI G - 1) = true
    · rw [if_pos o1]
      by_cases o2 : okN t T (tkN t T (tkN t T e)) 1 20 = true
      · rw [if_pos o2]
        obtain ⟨a, h1, h2⟩ := okN_ix hG1 hG2 o1
        obtain ⟨b, h3, h4, h5⟩ := okN_bd (lo := 1) (hi := 20) (by omega) (by omega) o2
        rw [h2, h5]
        exact fun _ => ⟨Or.inr (Or.inl ⟨k, a, b, q.1, q.2, h1, h3, h4, rfl⟩), b3⟩
      · rw [if_neg o2]
        exact fun z => b_ft z
    · rw [if_neg o1]
      exact fun z => b_ft z
  · subst q
    rw [if_neg (by decide), if_neg (by decide), if_neg (by decide), if_pos rfl]
    by_cases o1 : okN t T (tkN t T e) 2 10 = true
    · rw [if_pos o1]
      obtain ⟨b, h3, h4, h5⟩ := okN_bd (lo := 2) (hi := 10) (by omega) (by omega) o1
      rw [h5]
      exact fun _ => ⟨Or.inr (Or.inr (Or.inl ⟨b, h3, h4, rfl⟩)), b2⟩
    · rw [if_neg o1]
      exact fun z => b_ft z
  · subst q
    rw [if_neg (by decide), if_neg (by decide), if_neg (by decide), if_neg (by decide), if_pos rfl]
    by_cases o1 : okN t T (tkN t T e) 0 (nI G - 1) = true
    · rw [if_pos o1]
      by_cases o2 : okN t T (tkN t T (tkN t T e)) 0 (nI G - 1) = true ∧ ¬ nuV t T (tkN t T (tkN t T e)) = nuV t T (tkN t T e)
      · rw [if_pos o2]
        by_cases o3 : okN t T (tkN t T (tkN t T (tkN t T e))) 1 9 = true
        · rw [if_pos o3]
          obtain ⟨a, h1, h2⟩ := okN_ix hG1 hG2 o1
          obtain ⟨b, h3, h4⟩ := okN_ix hG1 hG2 o2.1
          obtain ⟨c, h5, h6, h7⟩ := okN_bd (lo := 1) (hi := 9) (by omega) (by omega) o3
          rw [h2, h4, h7]
          exact fun _ => ⟨Or.inr (Or.inr (Or.inr (Or.inl ⟨a, b, c, h1, h3, h5, h6, rfl⟩))), b4⟩
        · rw [if_neg o3]
          exact fun z => b_ft z
      · rw [if_neg o2]
        exact fun z => b_ft z
    · rw [if_neg o1]
      exact fun z => b_ft z
  · subst q
    rw [if_neg (by decide), if_neg (by decide), if_neg (by decide), if_neg (by decide), if_neg (by decide)]
    by_cases o1 : okN t T (tkN t T e) 0 (nI G - 1) = true
    · rw [if_pos o1]
      obtain ⟨a, h1, h2⟩ := okN_ix hG1 hG2 o1
      rw [h2]
      exact fun _ => ⟨Or.inr (Or.inr (Or.inr (Or.inr ⟨a, h1, rfl⟩))), b2⟩
    · rw [if_neg o1]
      exact fun z => b_ft z
theorem lv_G {G : Nat} {l : Nat × Int32 × Int32 × Int32} (hG1 : 2 ≤ G) (hG2 : G ≤ 10) (h : lv G l) : ∃ G', 2 ≤ G' ∧ G' ≤ 10 ∧ (if l.1 = 0 then l.2.1 else nI G) = nI G' := by
  rcases h with ⟨k, h1, h2, rfl⟩ | ⟨k, a, b, h1, h2, h3, h4, h5, rfl⟩ | ⟨n, h1, h2, rfl⟩ | ⟨a, b, c, h1, h2, h3, h4, rfl⟩ | ⟨a, h1, rfl⟩
  · exact ⟨G, hG1, hG2, if_neg (show ¬ k = 0 by omega)⟩
  · exact ⟨G, hG1, hG2, if_neg (show ¬ k = 0 by omega)⟩
  · exact ⟨n, h1, h2, if_pos rfl⟩
  · exact ⟨G, hG1, hG2, if_neg (show ¬ 1 = 0 by omega)⟩
  · exact ⟨G, hG1, hG2, if_neg (show ¬ 2 = 0 by omega)⟩
theorem dl_1 {D : Int32 × Int32 × (Nat → Int32) × (Nat → Int32) × (Nat → Int32) × (Nat → Int32)} {l : Nat × Int32 × Int32 × Int32} : (dl D l).1 = if l.1 = 0 then l.2.1 else D.1 := by
  unfold dl
  split
  · rfl
  · split
    · rfl
    · split
      · rfl
      · split <;> rfl
def TG (I I' : gI) : Prop := (∀ a, a ≠ 1 → (a < 8 ∨ 12 < a) → I' a = I a) ∧ I' 1 1 = I 1 1
theorem tg_trans {I1 I2 I3 : gI} (h1 : TG I1 I2) (h2 : TG I2 I3) : TG I1 I3 := ⟨fun a q1 q2 => (h2.1 a q1 q2).trans (h1.1 a q1 q2), h2.2.trans h1.2⟩
theorem tg_up {f : Nat → Int32} (h : f 1 = I 1 1) : TG I (va_up I 1 f) := ⟨fun a q1 _ => up_ne q1, by rw [up_eq]; exact h⟩
theorem tg_tx {I' : gI} (h : TG I I') (hX : TX I) : TX I' := fun i => by rw [h.1 (1030 + i) (by omega) (Or.inr (by omega))]; exact hX i
theorem X4_ro (hZ : St Z) {T : Nat} (hT2 : T ≤ 200) (f : Nat) : ∀ (I : gI) (e G : Nat), TX I → I 1 1 = nI T → I 1 4 = nI e → e ≤ T → I 8 4 = nI G → 2 ≤ G → G ≤ 10 → 1 ≤ f → f ≤ 12 → I 1 2 = nI (12 - f) → ∃ I', g_at 36 10 [.ref 1, .ref 8] [] Z I J = some (some (.int (if (lnsF (I 2) T f e (nI G)).1 = true then -1 else nI (lnsF (I 2) T f e (nI G)).2.1)), Z, I', J) ∧ TG I I' ∧ ((lnsF (I 2) T f e (nI G)).1 = true → I' 1 2 = nI (12 - f + (lnsF (I 2) T f e (nI G)).2.2.length) ∧ DD I' = (lnsF (I 2) T f e (nI G)).2.2.foldl dl (DD I)) := by
  induction f with
  | zero => intro I e G _ _ _ _ _ _ _ h; omega
  | succ f ih =>
    intro I e G hX hT he he2 hG hG1 hG2 _ hf hl
    have f3 : ¬ (12 : Int32) ≤ nI (12 - (f + 1)) := nI_ge (b := 12) (by omega) (by omega)
    obtain ⟨I1, r1, r2, r3, r4⟩ := X4_readLine (J := J) hZ hX hT hT2 he he2 hG (show 1 ≤ G by omega) hG2
    rw [q_36_10]
    cases ho : (lnF (I 2) T e (nI G)).1
    · rw [ho] at r1
      have r4' := r4 ho
      have hr : lnsF (I 2) T (f + 1) e (nI G) = (false, (lnF (I 2) T e (nI G)).2.1, []) := by rw [lnsF, if_neg (show ¬ (lnF (I 2) T e (nI G)).1 = true by rw [ho]; decide)]
      rw [hr]
      refine ⟨I1, ?_, ⟨r2.1, r2.2.1⟩, fun z => b_ft z⟩
      simp (decide := true) only [gN1_int, gN1_ref, gN1_null, gN1_long, gTg8_8, gTg8_14, gTg9_9, gTg9_13, gTgA_8, gTgA_9, gTgA_10, gTgA_11, gTgA_13, gTgA_14, gB01_0, gB01_1, gB01_b, List.cons_append, List.nil_append, Option.toList_some, Option.toList_none, Option.bind_some, ↓reduceIte, eq_self, not_true_eq_false, not_false_eq_true, b2i_0, b2i_1, up_eq, up_ne, up_up, up_sort, up_self, fl_at, nI_s, q_36_0, q_36_1, q_36_2, q_36_5, q_36_6, q_36_7, q_36_11, q_36_14, q_36_16, q_36_19, q_36_20, q_36_21, q_36_24, q_36_27, q_36_28, q_36_31, q_36_32, q_36_33, q_36_34, q_36_37, q_36_38, q_36_39, q_36_42, q_36_43, q_36_46, q_36_47, q_36_50, q_36_51, q_36_54, q_36_57, q_36_58, q_36_59, q_36_60, q_36_61, q_36_64, q_36_67, q_36_69, q_36_72, q_36_73, q_36_76, q_36_77, q_36_78, q_36_81, zk_1, zs_1_0, zr_1_0, hZ, hl, f3, r1, r4', Bool.false_eq_true]
    · obtain ⟨p1, p2⟩ := r3 ho
      obtain ⟨g1, g2⟩ := ln_lv he2 (show 1 ≤ G by omega) hG2 ho
      obtain ⟨G', u1, u2, u3⟩ := lv_G hG1 hG2 g1
      have u4 : I1 8 4 = nI G' := by
        have := congrArg Prod.fst p2
        rw [dl_1] at this
        rw [← u3]
        rw [show (DD I).1 = nI G from hG] at this
        exact this
      rw [ho] at r1
      have hr0 := lns_ok (f := f) ho rfl rfl u3
      generalize (lnF (I 2) T e (nI G)).2.1 = p at p1 g2 hr0
      generalize (lnF (I 2) T e (nI G)).2.2 = l at p2 g1 hr0
      have w1 : I1 1 1 = nI T := by rw [r2.2.1]; exact hT
      have w2 : I1 2 = I 2 := r2.1 2 (by decide) (Or.inl (by decide))
      have w3 : I1 1 2 = nI (12 - (f + 1)) := by rw [r2.2.2]; exact hl
      have w4 : nI (12 - (f + 1)) + 1 = nI (12 - f) := by rw [nI_1]; congr 1; omega
      have ht := X4_nextToken (I := va_up I1 1 (va_up (I1 1) 2 (nI (12 - f)))) (J := J) hZ (T := T) (e := p) (by simp (decide := true) only [up_eq, up_ne]; exact w1) hT2 (by simp (decide := true) only [up_eq, up_ne]; exact p1) g2
      simp (decide := true) only [up_eq, up_ne, up_up, w2] at ht
      rw [show tkE (I 2) T (tkS (I 2) T p) = tkN (I 2) T p from rfl] at ht
      obtain ⟨-, b1, b2, b3⟩ := tk_le (I 2) g2
      have tg1 : TG I (va_up I1 1 (va_up (va_up (va_up (I1 1) 2 (nI (12 - f))) 3 (nI (tkS (I 2) T p))) 4 (nI (tkN (I 2) T p)))) := tg_trans ⟨r2.1, r2.2.1⟩ (tg_up (by simp (decide := true) only [up_eq, up_ne]))
      have hb := X4_byteAt (I := va_up I1 1 (va_up (va_up (va_up (I1 1) 2 (nI (12 - f))) 3 (nI (tkS (I 2) T p))) 4 (nI (tkN (I 2) T p)))) (J := J) hZ (T := T) (i := tkS (I 2) T p) (by simp (decide := true) only [up_eq, up_ne]; exact w1) hT2 (by omega)
      simp (decide := true) only [up_eq, up_ne, w2] at hb
      by_cases c1 : tkS (I 2) T p = T
      · rw [if_pos c1] at hr0
        rw [hr0]
        rw [c1] at ht
        refine ⟨_, ?_, tg1, fun _ => ⟨?_, ?_⟩⟩
        · rw [c1]
          simp (decide := true) only [gN1_int, gN1_ref, gN1_null, gN1_long, gTg8_8, gTg8_14, gTg9_9, gTg9_13, gTgA_8, gTgA_9, gTgA_10, gTgA_11, gTgA_13, gTgA_14, gB01_0, gB01_1, gB01_b, List.cons_append, List.nil_append, Option.toList_some, Option.toList_none, Option.bind_some, ↓reduceIte, eq_self, not_true_eq_false, not_false_eq_true, b2i_0, b2i_1, up_eq, up_ne, up_up, up_sort, up_self, fl_at, nI_s, q_36_0, q_36_1, q_36_2, q_36_5, q_36_6, q_36_7, q_36_11, q_36_14, q_36_16, q_36_19, q_36_20, q_36_21, q_36_24, q_36_27, q_36_28, q_36_31, q_36_32, q_36_33, q_36_34, q_36_37, q_36_38, q_36_39, q_36_42, q_36_43, q_36_46, q_36_47, q_36_50, q_36_51, q_36_54, q_36_57, q_36_58, q_36_59, q_36_60, q_36_61, q_36_64, q_36_67, q_36_69, q_36_72, q_36_73, q_36_76, q_36_77, q_36_78, q_36_81, zk_1, zs_1_0, zr_1_0, hZ, hl, f3, r1, w1, w3, w4, ht, ne_eq, Bool.true_eq_false]
        · simp (decide := true) only [up_eq, up_ne]
          congr 1
          simp only [List.length_cons, List.length_nil]
          omega
        · simp only [List.foldl_cons, List.foldl_nil]
          rw [← p2]
          unfold DD
          simp (decide := true) only [up_ne]
      · rw [if_neg c1] at hr0
        have c1' : ¬ nI (tkS (I 2) T p) = nI T := fun z => c1 ((nI_eq (by omega) (by omega)).mp z)
        rw [by_lt (show tkS (I 2) T p < T by omega)] at hb
        by_cases c2 : I 2 (tkS (I 2) T p) = 59
        · rw [c2] at hb
          by_cases c3 : f = 0
          · rw [if_neg (fun z => z.2 c3)] at hr0
            rw [hr0]
            refine ⟨_, ?_, tg1, fun z => b_ft z⟩
            subst c3
            simp (decide := true) only [gN1_int, gN1_ref, gN1_null, gN1_long, gTg8_8, gTg8_14, gTg9_9, gTg9_13, gTgA_8, gTgA_9, gTgA_10, gTgA_11, gTgA_13, gTgA_14, gB01_0, gB01_1, gB01_b, List.cons_append, List.nil_append, Option.toList_some, Option.toList_none, Option.bind_some, ↓reduceIte, eq_self, not_true_eq_false, not_false_eq_true, b2i_0, b2i_1, up_eq, up_ne, up_up, up_sort, up_self, fl_at, nI_s, q_36_11, q_36_14, q_36_16, q_36_19, q_36_20, q_36_21, q_36_24, q_36_27, q_36_28, q_36_31, q_36_32, q_36_33, q_36_34, q_36_37, q_36_38, q_36_39, q_36_42, q_36_43, q_36_46, q_36_47, q_36_50, q_36_51, q_36_54, q_36_57, q_36_58, q_36_59, q_36_60, q_36_61, q_36_64, q_36_67, q_36_69, q_36_72, q_36_73, q_36_76, zk_1, zs_1_0, zr_1_0, hZ, hl, f3, r1, w1, w3, w4, ht, hb, c1', ne_eq, Bool.true_eq_false]
            rw [q_36_10]
            simp (decide := true) only [gN1_int, gN1_ref, gN1_null, gN1_long, gTg8_8, gTg8_14, gTg9_9, gTg9_13, gTgA_8, gTgA_9, gTgA_10, gTgA_11, gTgA_13, gTgA_14, gB01_0, gB01_1, gB01_b, List.cons_append, List.nil_append, Option.toList_some, Option.toList_none, Option.bind_some, ↓reduceIte, eq_self, not_true_eq_false, not_false_eq_true, b2i_0, b2i_1, up_eq, up_ne, up_up, up_sort, up_self, fl_at, nI_s, q_36_0, q_36_1, q_36_2, q_36_5, q_36_6, q_36_7, q_36_11, q_36_14, q_36_16, q_36_19, q_36_20, q_36_21, q_36_24, q_36_27, q_36_28, q_36_31, q_36_32, q_36_33, q_36_34, q_36_37, q_36_38, q_36_39, q_36_42, q_36_43, q_36_46, q_36_47, q_36_50, q_36_51, q_36_54, q_36_57, q_36_58, q_36_59, q_36_60, q_36_61, q_36_64, q_36_67, q_36_69, q_36_72, q_36_73, q_36_76, q_36_77, q_36_78, q_36_81, zk_1, zs_1_0, zr_1_0, hZ, show (12 : Int32) ≤ nI (12 - 0) from by decide, Bool.false_eq_true]
          · rw [if_pos ⟨c2, c3⟩] at hr0
            rw [hr0]
            obtain ⟨I3, s1, s2, s3⟩ := ih (va_up I1 1 (va_up (va_up (va_up (I1 1) 2 (nI (12 - f))) 3 (nI (tkS (I 2) T p))) 4 (nI (tkN (I 2) T p)))) (tkN (I 2) T p) G' (tg_tx tg1 hX) (by simp (decide := true) only [up_eq, up_ne]; exact w1) (by simp (decide := true) only [up_eq, up_ne]) b3 (by simp (decide := true) only [up_eq, up_ne]; exact u4) u1 u2 (by omega) (by omega) (by simp (decide := true) only [up_eq, up_ne])
            simp (decide := true) only [up_ne, w2] at s1 s3
            refine ⟨I3, ?_, tg_trans tg1 s2, fun z => ?_⟩
            · simp (decide := true) only [gN1_int, gN1_ref, gN1_null, gN1_long, gTg8_8, gTg8_14, gTg9_9, gTg9_13, gTgA_8, gTgA_9, gTgA_10, gTgA_11, gTgA_13, gTgA_14, gB01_0, gB01_1, gB01_b, List.cons_append, List.nil_append, Option.toList_some, Option.toList_none, Option.bind_some, ↓reduceIte, eq_self, not_true_eq_false, not_false_eq_true, b2i_0, b2i_1, up_eq, up_ne, up_up, up_sort, up_self, fl_at, nI_s, q_36_11, q_36_14, q_36_16, q_36_19, q_36_20, q_36_21, q_36_24, q_36_27, q_36_28, q_36_31, q_36_32, q_36_33, q_36_34, q_36_37, q_36_38, q_36_39, q_36_42, q_36_43, q_36_46, q_36_47, q_36_50, q_36_51, q_36_54, q_36_57, q_36_58, q_36_59, q_36_60, q_36_61, q_36_64, q_36_67, q_36_69, q_36_72, q_36_73, q_36_76, zk_1, zs_1_0, zr_1_0, hZ, hl, f3, r1, w1, w3, w4, ht, hb, c1', ne_eq, Bool.true_eq_false]
              exact s1
            · obtain ⟨v1, v2⟩ := s3 z
              refine ⟨?_, ?_⟩
              · rw [v1]
                congr 1
                simp only [List.length_cons]
                omega
              · rw [v2]
                simp only [List.foldl_cons]
                rw [← p2]
                congr 1
        · rw [if_neg (fun z => c2 z.1)] at hr0
          rw [hr0]
          refine ⟨_, ?_, tg1, fun z => b_ft z⟩
          simp (decide := true) only [gN1_int, gN1_ref, gN1_null, gN1_long, gTg8_8, gTg8_14, gTg9_9, gTg9_13, gTgA_8, gTgA_9, gTgA_10, gTgA_11, gTgA_13, gTgA_14, gB01_0, gB01_1, gB01_b, List.cons_append, List.nil_append, Option.toList_some, Option.toList_none, Option.bind_some, ↓reduceIte, eq_self, not_true_eq_false, not_false_eq_true, b2i_0, b2i_1, up_eq, up_ne, up_up, up_sort, up_self, fl_at, nI_s, q_36_0, q_36_1, q_36_2, q_36_5, q_36_6, q_36_7, q_36_11, q_36_14, q_36_16, q_36_19, q_36_20, q_36_21, q_36_24, q_36_27, q_36_28, q_36_31, q_36_32, q_36_33, q_36_34, q_36_37, q_36_38, q_36_39, q_36_42, q_36_43, q_36_46, q_36_47, q_36_50, q_36_51, q_36_54, q_36_57, q_36_58, q_36_59, q_36_60, q_36_61, q_36_64, q_36_67, q_36_69, q_36_72, q_36_73, q_36_76, q_36_77, q_36_78, q_36_81, zk_1, zs_1_0, zr_1_0, hZ, hl, f3, r1, w1, w3, w4, ht, hb, c1', c2, ne_eq, Bool.true_eq_false, Bool.false_eq_true]
theorem X4_readOnto (hZ : St Z) (hX : TX I) {T G : Nat} (hT : I 1 1 = nI T) (hT2 : T ≤ 200) (hG : I 8 4 = nI G) (hG1 : 2 ≤ G) (hG2 : G ≤ 10) : ∃ I', g_at 36 0 [.ref 1, .ref 8] [] Z I J = some (some (.int (if (lnsF (I 2) T 12 0 (nI G)).1 = true then -1 else nI (lnsF (I 2) T 12 0 (nI G)).2.1)), Z, I', J) ∧ TG I I' ∧ ((lnsF (I 2) T 12 0 (nI G)).1 = true → I' 1 2 = nI (lnsF (I 2) T 12 0 (nI G)).2.2.length ∧ DD I' = (lnsF (I 2) T 12 0 (nI G)).2.2.foldl dl (DD I)) := by
  have tg1 : TG I (va_up I 1 (va_up (va_up (I 1) 2 0) 4 0)) := tg_up (by simp (decide := true) only [up_eq, up_ne])
  obtain ⟨I3, s1, s2, s3⟩ := X4_ro (J := J) hZ hT2 12 (va_up I 1 (va_up (va_up (I 1) 2 0) 4 0)) 0 G (tg_tx tg1 hX) (by simp (decide := true) only [up_eq, up_ne]; exact hT) (by simp (decide := true) only [up_eq, up_ne]) (by omega) (by simp (decide := true) only [up_eq, up_ne]; exact hG) hG1 hG2 (by omega) (by omega) (by simp (decide := true) only [up_eq, up_ne])
  simp (decide := true) only [up_ne] at s1 s3
  refine ⟨I3, ?_, tg_trans tg1 s2, fun z => ?_⟩
  · simp (decide := true) only [gN1_int, gN1_ref, gN1_null, gN1_long, gTg8_8, gTg8_14, gTg9_9, gTg9_13, gTgA_8, gTgA_9, gTgA_10, gTgA_11, gTgA_13, gTgA_14, gB01_0, gB01_1, gB01_b, List.cons_append, List.nil_append, Option.toList_some, Option.toList_none, Option.bind_some, ↓reduceIte, eq_self, not_true_eq_false, not_false_eq_true, b2i_0, b2i_1, up_eq, up_ne, up_up, up_sort, up_self, fl_at, nI_s, q_36_0, q_36_1, q_36_2, q_36_5, q_36_6, q_36_7, zk_1, zs_1_0, zr_1_0, hZ]
    exact s1
  · obtain ⟨v1, v2⟩ := s3 z
    refine ⟨?_, ?_⟩
    · rw [v1]
      congr 1
      omega
    · rw [v2]
      congr 1
end
