/-! the reference: isRead, fault -/
section
variable {Z : gZ} {I : gI} {J : gJ}
def MH (I I' : gI) (J J' : gJ) : Prop := (∀ a, a ≠ 38 → a ≠ 44 → I' a = I a) ∧ (∀ k, (k < 9 ∨ 16 < k) → I' 38 k = I 38 k) ∧ (∀ a, a ≠ 38 → J' a = J a)
theorem mh_trans {I1 I2 I3 : gI} {J1 J2 J3 : gJ} (h1 : MH I1 I2 J1 J2) (h2 : MH I2 I3 J2 J3) : MH I1 I3 J1 J3 := ⟨fun a q1 q2 => (h2.1 a q1 q2).trans (h1.1 a q1 q2), fun k q => (h2.2.1 k q).trans (h1.2.1 k q), fun a q => (h2.2.2 a q).trans (h1.2.2 a q)⟩
theorem mg_h {I1 I2 : gI} {J1 J2 : gJ} (h : MG I1 I2 J1 J2) : MH I1 I2 J1 J2 := ⟨h.1, fun k q => h.2.1 k (by omega), h.2.2⟩
/-- lines stand in the row of what was read, from place w on -/
def rdA (r : Nat → Int32) : Nat → List (Nat × Int32 × Int32 × Int32) → Prop
  | _, [] => True
  | w, l :: L => rdM r w l ∧ rdA r (w + 4) L
theorem X7_ir (hZ : St Z) {T : Nat} (hT2 : T ≤ 200) (f : Nat) : ∀ (I : gI) (J : gJ) (e G : Nat), I 38 7 = nI T → I 38 9 = nI e → e ≤ T → I 38 16 = nI G → 2 ≤ G → G ≤ 10 → 1 ≤ f → f ≤ 12 → I 38 15 = nI (12 - f) → ∃ I' J', g_at 95 20 [.ref 38, .int 1] [] Z I J = some (some (.int (b2i (lnsF (I 43) T f e (nI G)).1)), Z, I', J') ∧ MH I I' J J' ∧ ((lnsF (I 43) T f e (nI G)).1 = true → I' 38 15 = nI (12 - f + (lnsF (I 43) T f e (nI G)).2.2.length) ∧ rdA (I' 44) (4 * (12 - f)) (lnsF (I 43) T f e (nI G)).2.2 ∧ ∀ j, j < 4 * (12 - f) → I' 44 j = I 44 j) ∧ ((lnsF (I 43) T f e (nI G)).1 = false → I' 38 14 = nI (lnsF (I 43) T f e (nI G)).2.1) := by
  induction f with
  | zero => intro I J e G _ _ _ _ _ _ h; omega
  | succ f ih =>
    intro I J e G hT he he2 hG hG1 hG2 _ hf hl
    have h4 : (4 : Int32) * nI (12 - (f + 1)) = nI (4 * (12 - (f + 1))) := pk_mul 4 _
    obtain ⟨I1, J1, r1, r2, r3, r4⟩ := X7_isLine (J := J) hZ hT hT2 he he2 (w := 4 * (12 - (f + 1))) (by omega) hG
    rw [q_95_20]
    cases ho : (lnF (I 43) T e (nI G)).1
    · rw [ho] at r1
      have r4' := r4 ho
      have hr : lnsF (I 43) T (f + 1) e (nI G) = (false, (lnF (I 43) T e (nI G)).2.1, []) := by rw [lnsF, if_neg (show ¬ (lnF (I 43) T e (nI G)).1 = true by rw [ho]; decide)]
      rw [hr]
      refine ⟨I1, J1, ?_, mg_h r2, fun z => b_ft z, fun _ => r4'⟩
      simp (decide := true) only [gN1_int, gN1_ref, gN1_null, gN1_long, gTg8_8, gTg8_14, gTg9_9, gTg9_13, gTgA_8, gTgA_9, gTgA_10, gTgA_11, gTgA_13, gTgA_14, gB01_0, gB01_1, gB01_b, List.cons_append, List.nil_append, Option.toList_some, Option.toList_none, Option.bind_some, ↓reduceIte, eq_self, not_true_eq_false, not_false_eq_true, b2i_0, b2i_1, up_eq, up_ne, up_up, up_sort, up_self, fl_at, nI_s, q_95_0, q_95_1, q_95_2, q_95_5, q_95_6, q_95_7, q_95_10, q_95_11, q_95_12, q_95_15, q_95_18, q_95_19, q_95_21, q_95_24, q_95_25, q_95_26, q_95_27, q_95_30, q_95_31, q_95_34, q_95_37, q_95_38, q_95_39, q_95_40, q_95_41, q_95_44, q_95_45, q_95_46, q_95_49, q_95_50, q_95_53, q_95_54, q_95_57, q_95_60, q_95_61, q_95_64, q_95_65, q_95_68, q_95_70, q_95_73, q_95_74, q_95_77, q_95_78, q_95_79, q_95_82, q_95_83, q_95_86, q_95_89, q_95_90, q_95_93, q_95_94, q_95_97, q_95_100, q_95_101, q_95_104, q_95_105, zk_38, zs_38_1, zr_38_1, zs_38_2, zr_38_2, zs_38_3, zr_38_3, zs_38_4, zr_38_4, zs_38_8, zr_38_8, zs_38_17, zr_38_17, zs_38_18, zr_38_18, zs_38_19, zr_38_19, zs_38_22, zr_38_22, zs_38_23, zr_38_23, zs_38_25, zr_38_25, zs_38_26, zr_38_26, zs_38_28, zr_38_28, zs_38_29, zr_38_29, hZ, hl, h4, r1]
      rfl
    · obtain ⟨p1, p2, p3, p4⟩ := r3 ho
      obtain ⟨g1, g2⟩ := ln_lv he2 (show 1 ≤ G by omega) hG2 ho
      obtain ⟨G', u1, u2, u3⟩ := lv_G hG1 hG2 g1
      rw [u3] at p2
      rw [ho] at r1
      have hr0 := lns_ok (f := f) ho rfl rfl u3
      generalize (lnF (I 43) T e (nI G)).2.1 = p at p1 g2 hr0
      generalize (lnF (I 43) T e (nI G)).2.2 = l at p3 g1 hr0
      have w1 : I1 38 7 = nI T := by rw [r2.2.1 7 (by omega)]; exact hT
      have w2 : I1 43 = I 43 := r2.1 43 (by decide) (by decide)
      have w3 : I1 38 15 = nI (12 - (f + 1)) := by rw [r2.2.1 15 (by omega)]; exact hl
      have w4 : nI (12 - (f + 1)) + 1 = nI (12 - f) := by rw [nI_1]; congr 1; omega
      have ht := X7_nextToken (I := va_up I1 38 (va_up (I1 38) 15 (nI (12 - f)))) (J := J1) hZ (T := T) (e := p) (by simp (decide := true) only [up_eq, up_ne]; exact w1) hT2 (by simp (decide := true) only [up_eq, up_ne]; exact p1) g2
      simp (decide := true) only [up_eq, up_ne, up_up, up_sort, w2] at ht
      obtain ⟨-, b1, b2, b3⟩ := tk_le (I 43) g2
      obtain ⟨s1, s2⟩ := tk_sep (t := I 43) b1
      have mh1 : MH I (va_up I1 38 (va_up (va_up (va_up (va_up (va_up (I1 38) 9 (nI (tkN (I 43) T p))) 10 (nI (tkS (I 43) T p))) 12 (tkD (I 43) T (tkS (I 43) T p))) 13 (tkV (I 43) T (tkS (I 43) T p))) 15 (nI (12 - f)))) J (va_up J1 38 (va_up (J1 38) 11 (tkT (I 43) T (tkS (I 43) T p)))) := mh_trans (mg_h r2) ⟨fun a h1 _ => up_ne h1, fun k h => by rw [up_eq, up_ne (by omega), up_ne (by omega), up_ne (by omega), up_ne (by omega), up_ne (by omega)], fun a h => up_ne h⟩
      by_cases c1 : tkS (I 43) T p = T
      · rw [if_pos c1] at hr0
        rw [hr0]
        have tv := s1.mpr c1
        rw [tv] at ht mh1
        refine ⟨_, _, ?_, mh1, fun _ => ⟨?_, ?_, fun j hj => ?_⟩, fun z => b_tf z⟩
        · simp (decide := true) only [gN1_int, gN1_ref, gN1_null, gN1_long, gTg8_8, gTg8_14, gTg9_9, gTg9_13, gTgA_8, gTgA_9, gTgA_10, gTgA_11, gTgA_13, gTgA_14, gB01_0, gB01_1, gB01_b, List.cons_append, List.nil_append, Option.toList_some, Option.toList_none, Option.bind_some, ↓reduceIte, eq_self, not_true_eq_false, not_false_eq_true, b2i_0, b2i_1, up_eq, up_ne, up_up, up_sort, up_self, fl_at, nI_s, q_95_21, q_95_24, q_95_25, q_95_26, q_95_27, q_95_30, q_95_31, q_95_34, q_95_37, q_95_38, q_95_39, q_95_40, q_95_41, q_95_44, q_95_45, q_95_46, q_95_49, q_95_50, q_95_53, q_95_54, q_95_57, q_95_60, q_95_61, q_95_64, q_95_65, q_95_68, q_95_70, q_95_73, q_95_74, q_95_77, q_95_78, q_95_79, zk_38, zs_38_1, zr_38_1, zs_38_2, zr_38_2, zs_38_3, zr_38_3, zs_38_4, zr_38_4, zs_38_8, zr_38_8, zs_38_17, zr_38_17, zs_38_18, zr_38_18, zs_38_19, zr_38_19, zs_38_22, zr_38_22, zs_38_23, zr_38_23, zs_38_25, zr_38_25, zs_38_26, zr_38_26, zs_38_28, zr_38_28, zs_38_29, zr_38_29, hZ, hl, h4, r1, w3, w4, ht, lcmp0, Bool.true_eq_false]
          rw [q_95_20]
          simp (decide := true) only [gN1_int, gN1_ref, gN1_null, gN1_long, gTg8_8, gTg8_14, gTg9_9, gTg9_13, gTgA_8, gTgA_9, gTgA_10, gTgA_11, gTgA_13, gTgA_14, gB01_0, gB01_1, gB01_b, List.cons_append, List.nil_append, Option.toList_some, Option.toList_none, Option.bind_some, ↓reduceIte, eq_self, not_true_eq_false, not_false_eq_true, b2i_0, b2i_1, up_eq, up_ne, up_up, up_sort, up_self, fl_at, nI_s, q_95_21, q_95_24, q_95_25, q_95_26, q_95_27, q_95_30, q_95_31, q_95_34, q_95_37, q_95_38, q_95_39, q_95_40, q_95_41, q_95_44, q_95_45, q_95_46, q_95_49, q_95_50, q_95_53, q_95_54, q_95_57, q_95_60, q_95_61, q_95_64, q_95_65, q_95_68, q_95_70, q_95_73, q_95_74, q_95_77, q_95_78, q_95_79, q_95_82, q_95_83, q_95_86, q_95_89, q_95_90, q_95_93, q_95_94, q_95_97, q_95_100, q_95_101, q_95_104, q_95_105, zk_38, zs_38_1, zr_38_1, zs_38_2, zr_38_2, zs_38_3, zr_38_3, zs_38_4, zr_38_4, zs_38_8, zr_38_8, zs_38_17, zr_38_17, zs_38_18, zr_38_18, zs_38_19, zr_38_19, zs_38_22, zr_38_22, zs_38_23, zr_38_23, zs_38_25, zr_38_25, zs_38_26, zr_38_26, zs_38_28, zr_38_28, zs_38_29, zr_38_29, hZ, lcmp0]
          rfl
        · simp (decide := true) only [up_eq, up_ne]
          congr 1
          simp only [List.length_cons, List.length_nil]
          omega
        · rw [up_ne (by decide)]
          exact ⟨p3, trivial⟩
        · rw [up_ne (by decide)]
          exact p4 j hj
      · rw [if_neg c1] at hr0
        have n2 : ¬ tkT (I 43) T (tkS (I 43) T p) = -2 := fun z => c1 (s1.mp z)
        by_cases c2 : I 43 (tkS (I 43) T p) = 59
        · have tv := s2.mpr ⟨by omega, c2⟩
          rw [tv] at ht mh1
          by_cases c3 : f = 0
          · rw [if_neg (fun z => z.2 c3)] at hr0
            rw [hr0]
            refine ⟨va_up I1 38 (va_up (va_up (va_up (va_up (va_up (va_up (I1 38) 9 (nI (tkN (I 43) T p))) 10 (nI (tkS (I 43) T p))) 12 (tkD (I 43) T (tkS (I 43) T p))) 13 (tkV (I 43) T (tkS (I 43) T p))) 14 (nI (tkS (I 43) T p))) 15 (nI (12 - f))), _, ?_, mh_trans mh1 ⟨fun a h1 _ => by rw [up_ne h1, up_ne h1], fun k h => by rw [up_eq, up_eq, up_ne (by omega), up_ne (by omega), up_ne (by omega), up_ne (by omega), up_ne (by omega), up_ne (by omega), up_ne (by omega), up_ne (by omega), up_ne (by omega), up_ne (by omega), up_ne (by omega)], fun _ _ => rfl⟩, fun z => b_ft z, fun _ => ?_⟩
            · subst c3
              simp (decide := true) only [gN1_int, gN1_ref, gN1_null, gN1_long, gTg8_8, gTg8_14, gTg9_9, gTg9_13, gTgA_8, gTgA_9, gTgA_10, gTgA_11, gTgA_13, gTgA_14, gB01_0, gB01_1, gB01_b, List.cons_append, List.nil_append, Option.toList_some, Option.toList_none, Option.bind_some, ↓reduceIte, eq_self, not_true_eq_false, not_false_eq_true, b2i_0, b2i_1, up_eq, up_ne, up_up, up_sort, up_self, fl_at, nI_s, q_95_21, q_95_24, q_95_25, q_95_26, q_95_27, q_95_30, q_95_31, q_95_34, q_95_37, q_95_38, q_95_39, q_95_40, q_95_41, q_95_44, q_95_45, q_95_46, q_95_49, q_95_50, q_95_53, q_95_54, q_95_57, q_95_60, q_95_61, q_95_64, q_95_65, q_95_68, q_95_70, q_95_73, q_95_74, q_95_77, q_95_78, q_95_79, zk_38, zs_38_1, zr_38_1, zs_38_2, zr_38_2, zs_38_3, zr_38_3, zs_38_4, zr_38_4, zs_38_8, zr_38_8, zs_38_17, zr_38_17, zs_38_18, zr_38_18, zs_38_19, zr_38_19, zs_38_22, zr_38_22, zs_38_23, zr_38_23, zs_38_25, zr_38_25, zs_38_26, zr_38_26, zs_38_28, zr_38_28, zs_38_29, zr_38_29, hZ, hl, h4, r1, w3, w4, ht, lcmp0, show (12 : Int32) ≤ nI (12 - 0) from by decide, Bool.true_eq_false]
              rw [q_95_20]
              simp (decide := true) only [gN1_int, gN1_ref, gN1_null, gN1_long, gTg8_8, gTg8_14, gTg9_9, gTg9_13, gTgA_8, gTgA_9, gTgA_10, gTgA_11, gTgA_13, gTgA_14, gB01_0, gB01_1, gB01_b, List.cons_append, List.nil_append, Option.toList_some, Option.toList_none, Option.bind_some, ↓reduceIte, eq_self, not_true_eq_false, not_false_eq_true, b2i_0, b2i_1, up_eq, up_ne, up_up, up_sort, up_self, fl_at, nI_s, q_95_21, q_95_24, q_95_25, q_95_26, q_95_27, q_95_30, q_95_31, q_95_34, q_95_37, q_95_38, q_95_39, q_95_40, q_95_41, q_95_44, q_95_45, q_95_46, q_95_49, q_95_50, q_95_53, q_95_54, q_95_57, q_95_60, q_95_61, q_95_64, q_95_65, q_95_68, q_95_70, q_95_73, q_95_74, q_95_77, q_95_78, q_95_79, q_95_82, q_95_83, q_95_86, q_95_89, q_95_90, q_95_93, q_95_94, q_95_97, q_95_100, q_95_101, q_95_104, q_95_105, zk_38, zs_38_1, zr_38_1, zs_38_2, zr_38_2, zs_38_3, zr_38_3, zs_38_4, zr_38_4, zs_38_8, zr_38_8, zs_38_17, zr_38_17, zs_38_18, zr_38_18, zs_38_19, zr_38_19, zs_38_22, zr_38_22, zs_38_23, zr_38_23, zs_38_25, zr_38_25, zs_38_26, zr_38_26, zs_38_28, zr_38_28, zs_38_29, zr_38_29, hZ, lcmp0, X7_fails hZ]
              rfl
            · simp (decide := true) only [up_eq, up_ne]
          · rw [if_pos ⟨c2, c3⟩] at hr0
            rw [hr0]
            have f5 : ¬ (12 : Int32) ≤ nI (12 - f) := nI_ge (b := 12) (by omega) (by omega)
            obtain ⟨I3, J3, v1, v2, v3, v4⟩ := ih (va_up I1 38 (va_up (va_up (va_up (va_up (va_up (I1 38) 9 (nI (tkN (I 43) T p))) 10 (nI (tkS (I 43) T p))) 12 (tkD (I 43) T (tkS (I 43) T p))) 13 (tkV (I 43) T (tkS (I 43) T p))) 15 (nI (12 - f)))) (va_up J1 38 (va_up (J1 38) 11 (-3))) (tkN (I 43) T p) G' (by simp (decide := true) only [up_eq, up_ne]; exact w1) (by simp (decide := true) only [up_eq, up_ne]) b3 (by simp (decide := true) only [up_eq, up_ne]; exact p2) u1 u2 (by omega) (by omega) (by simp (decide := true) only [up_eq, up_ne])
            simp (decide := true) only [up_ne, w2] at v1 v3 v4
            refine ⟨I3, J3, ?_, mh_trans mh1 v2, fun z => ?_, fun z => v4 z⟩
            · simp (decide := true) only [gN1_int, gN1_ref, gN1_null, gN1_long, gTg8_8, gTg8_14, gTg9_9, gTg9_13, gTgA_8, gTgA_9, gTgA_10, gTgA_11, gTgA_13, gTgA_14, gB01_0, gB01_1, gB01_b, List.cons_append, List.nil_append, Option.toList_some, Option.toList_none, Option.bind_some, ↓reduceIte, eq_self, not_true_eq_false, not_false_eq_true, b2i_0, b2i_1, up_eq, up_ne, up_up, up_sort, up_self, fl_at, nI_s, q_95_21, q_95_24, q_95_25, q_95_26, q_95_27, q_95_30, q_95_31, q_95_34, q_95_37, q_95_38, q_95_39, q_95_40, q_95_41, q_95_44, q_95_45, q_95_46, q_95_49, q_95_50, q_95_53, q_95_54, q_95_57, q_95_60, q_95_61, q_95_64, q_95_65, q_95_68, q_95_70, q_95_73, q_95_74, q_95_77, q_95_78, q_95_79, zk_38, zs_38_1, zr_38_1, zs_38_2, zr_38_2, zs_38_3, zr_38_3, zs_38_4, zr_38_4, zs_38_8, zr_38_8, zs_38_17, zr_38_17, zs_38_18, zr_38_18, zs_38_19, zr_38_19, zs_38_22, zr_38_22, zs_38_23, zr_38_23, zs_38_25, zr_38_25, zs_38_26, zr_38_26, zs_38_28, zr_38_28, zs_38_29, zr_38_29, hZ, hl, h4, r1, w3, w4, ht, lcmp0, f5, Bool.true_eq_false]
              exact v1
            · obtain ⟨x1, x2, x3⟩ := v3 z
              refine ⟨?_, ⟨?_, ?_⟩, fun j hj => ?_⟩
              · rw [x1]
                congr 1
                simp only [List.length_cons]
                omega
              · exact rd_congr (fun j hj => x3 j (by omega)) p3
              · rw [show 4 * (12 - (f + 1)) + 4 = 4 * (12 - f) by omega]
                exact x2
              · rw [x3 j (by omega)]
                exact p4 j hj
        · have n3 : ¬ tkT (I 43) T (tkS (I 43) T p) = -3 := fun z => c2 (s2.mp z).2
          rw [if_neg (fun z => c2 z.1)] at hr0
          rw [hr0]
          generalize tkT (I 43) T (tkS (I 43) T p) = tv at ht mh1 n2 n3
          refine ⟨va_up I1 38 (va_up (va_up (va_up (va_up (va_up (va_up (I1 38) 9 (nI (tkN (I 43) T p))) 10 (nI (tkS (I 43) T p))) 12 (tkD (I 43) T (tkS (I 43) T p))) 13 (tkV (I 43) T (tkS (I 43) T p))) 14 (nI (tkS (I 43) T p))) 15 (nI (12 - f))), _, ?_, mh_trans mh1 ⟨fun a h1 _ => by rw [up_ne h1, up_ne h1], fun k h => by rw [up_eq, up_eq, up_ne (by omega), up_ne (by omega), up_ne (by omega), up_ne (by omega), up_ne (by omega), up_ne (by omega), up_ne (by omega), up_ne (by omega), up_ne (by omega), up_ne (by omega), up_ne (by omega)], fun _ _ => rfl⟩, fun z => b_ft z, fun _ => ?_⟩
          · simp (decide := true) only [gN1_int, gN1_ref, gN1_null, gN1_long, gTg8_8, gTg8_14, gTg9_9, gTg9_13, gTgA_8, gTgA_9, gTgA_10, gTgA_11, gTgA_13, gTgA_14, gB01_0, gB01_1, gB01_b, List.cons_append, List.nil_append, Option.toList_some, Option.toList_none, Option.bind_some, ↓reduceIte, eq_self, not_true_eq_false, not_false_eq_true, b2i_0, b2i_1, up_eq, up_ne, up_up, up_sort, up_self, fl_at, nI_s, q_95_21, q_95_24, q_95_25, q_95_26, q_95_27, q_95_30, q_95_31, q_95_34, q_95_37, q_95_38, q_95_39, q_95_40, q_95_41, q_95_44, q_95_45, q_95_46, q_95_49, q_95_50, q_95_53, q_95_54, q_95_57, q_95_60, q_95_61, q_95_64, q_95_65, q_95_68, q_95_70, q_95_73, q_95_74, q_95_77, q_95_78, q_95_79, zk_38, zs_38_1, zr_38_1, zs_38_2, zr_38_2, zs_38_3, zr_38_3, zs_38_4, zr_38_4, zs_38_8, zr_38_8, zs_38_17, zr_38_17, zs_38_18, zr_38_18, zs_38_19, zr_38_19, zs_38_22, zr_38_22, zs_38_23, zr_38_23, zs_38_25, zr_38_25, zs_38_26, zr_38_26, zs_38_28, zr_38_28, zs_38_29, zr_38_29, hZ, hl, h4, r1, w3, w4, ht, lcmp0, n3, Bool.true_eq_false]
            rw [q_95_20]
            simp (decide := true) only [gN1_int, gN1_ref, gN1_null, gN1_long, gTg8_8, gTg8_14, gTg9_9, gTg9_13, gTgA_8, gTgA_9, gTgA_10, gTgA_11, gTgA_13, gTgA_14, gB01_0, gB01_1, gB01_b, List.cons_append, List.nil_append, Option.toList_some, Option.toList_none, Option.bind_some, ↓reduceIte, eq_self, not_true_eq_false, not_false_eq_true, b2i_0, b2i_1, up_eq, up_ne, up_up, up_sort, up_self, fl_at, nI_s, q_95_21, q_95_24, q_95_25, q_95_26, q_95_27, q_95_30, q_95_31, q_95_34, q_95_37, q_95_38, q_95_39, q_95_40, q_95_41, q_95_44, q_95_45, q_95_46, q_95_49, q_95_50, q_95_53, q_95_54, q_95_57, q_95_60, q_95_61, q_95_64, q_95_65, q_95_68, q_95_70, q_95_73, q_95_74, q_95_77, q_95_78, q_95_79, q_95_82, q_95_83, q_95_86, q_95_89, q_95_90, q_95_93, q_95_94, q_95_97, q_95_100, q_95_101, q_95_104, q_95_105, zk_38, zs_38_1, zr_38_1, zs_38_2, zr_38_2, zs_38_3, zr_38_3, zs_38_4, zr_38_4, zs_38_8, zr_38_8, zs_38_17, zr_38_17, zs_38_18, zr_38_18, zs_38_19, zr_38_19, zs_38_22, zr_38_22, zs_38_23, zr_38_23, zs_38_25, zr_38_25, zs_38_26, zr_38_26, zs_38_28, zr_38_28, zs_38_29, zr_38_29, hZ, lcmp0, n2, X7_fails hZ]
            rfl
          · simp (decide := true) only [up_eq, up_ne]
theorem X7_isRead (hZ : St Z) {T G : Nat} (hT : I 38 7 = nI T) (hT2 : T ≤ 200) (hG : I 38 0 = nI G) (hG1 : 2 ≤ G) (hG2 : G ≤ 10) : ∃ I' J', g_at 95 0 [.ref 38, .null] [] Z I J = some (some (.int (b2i (lnsF (I 43) T 12 0 (nI G)).1)), Z, I', J') ∧ MH I I' J J' ∧ ((lnsF (I 43) T 12 0 (nI G)).1 = true → I' 38 15 = nI (lnsF (I 43) T 12 0 (nI G)).2.2.length ∧ rdA (I' 44) 0 (lnsF (I 43) T 12 0 (nI G)).2.2) ∧ ((lnsF (I 43) T 12 0 (nI G)).1 = false → I' 38 14 = nI (lnsF (I 43) T 12 0 (nI G)).2.1) := by
  obtain ⟨I3, J3, v1, v2, v3, v4⟩ := X7_ir hZ hT2 12 (va_up I 38 (va_up (va_up (va_up (I 38) 9 0) 15 0) 16 (nI G))) J 0 G (by simp (decide := true) only [up_eq, up_ne]; exact hT) (by simp (decide := true) only [up_eq, up_ne]) (by omega) (by simp (decide := true) only [up_eq, up_ne]) hG1 hG2 (by omega) (by omega) (by simp (decide := true) only [up_eq, up_ne])
  simp (decide := true) only [up_ne] at v1 v3 v4
  refine ⟨I3, J3, ?_, mh_trans ⟨fun a h1 _ => up_ne h1, fun k h => by rw [up_eq, up_ne (by omega), up_ne (by omega), up_ne (by omega)], fun _ _ => rfl⟩ v2, fun z => ?_, fun z => v4 z⟩
  · simp (decide := true) only [gN1_int, gN1_ref, gN1_null, gN1_long, gTg8_8, gTg8_14, gTg9_9, gTg9_13, gTgA_8, gTgA_9, gTgA_10, gTgA_11, gTgA_13, gTgA_14, gB01_0, gB01_1, gB01_b, List.cons_append, List.nil_append, Option.toList_some, Option.toList_none, Option.bind_some, ↓reduceIte, eq_self, not_true_eq_false, not_false_eq_true, b2i_0, b2i_1, up_eq, up_ne, up_up, up_sort, up_self, fl_at, nI_s, q_95_0, q_95_1, q_95_2, q_95_5, q_95_6, q_95_7, q_95_10, q_95_11, q_95_12, q_95_15, q_95_18, q_95_19, zk_38, zs_38_1, zr_38_1, zs_38_2, zr_38_2, zs_38_3, zr_38_3, zs_38_4, zr_38_4, zs_38_8, zr_38_8, zs_38_17, zr_38_17, zs_38_18, zr_38_18, zs_38_19, zr_38_19, zs_38_22, zr_38_22, zs_38_23, zr_38_23, zs_38_25, zr_38_25, zs_38_26, zr_38_26, zs_38_28, zr_38_28, zs_38_29, zr_38_29, hZ, hG]
    exact v1
  · obtain ⟨x1, x2, x3⟩ := v3 z
    refine ⟨?_, x2⟩
    rw [x1]
    congr 1
    omega
theorem X7_fault (hZ : St Z) {T G : Nat} (hT : I 38 7 = nI T) (hT2 : T ≤ 200) (hG : I 38 0 = nI G) (hG1 : 2 ≤ G) (hG2 : G ≤ 10) : ∃ I' J', g_at 96 0 [.ref 38] [] Z I J = some (some (.int (if (lnsF (I 43) T 12 0 (nI G)).1 = true then -1 else nI (lnsF (I 43) T 12 0 (nI G)).2.1)), Z, I', J') ∧ MH I I' J J' := by
  obtain ⟨I', J', r1, r2, r3, r4⟩ := X7_isRead (J := J) hZ hT hT2 hG hG1 hG2
  refine ⟨I', J', ?_, r2⟩
  cases q : (lnsF (I 43) T 12 0 (nI G)).1
  · rw [q] at r1
    simp (decide := true) only [gN1_int, gN1_ref, gN1_null, gN1_long, gTg8_8, gTg8_14, gTg9_9, gTg9_13, gTgA_8, gTgA_9, gTgA_10, gTgA_11, gTgA_13, gTgA_14, gB01_0, gB01_1, gB01_b, List.cons_append, List.nil_append, Option.toList_some, Option.toList_none, Option.bind_some, ↓reduceIte, eq_self, not_true_eq_false, not_false_eq_true, b2i_0, b2i_1, up_eq, up_ne, up_up, up_sort, up_self, fl_at, nI_s, q_96_0, q_96_1, q_96_4, q_96_7, q_96_8, q_96_11, q_96_12, q_96_15, zk_38, zs_38_1, zr_38_1, zs_38_2, zr_38_2, zs_38_3, zr_38_3, zs_38_4, zr_38_4, zs_38_8, zr_38_8, zs_38_17, zr_38_17, zs_38_18, zr_38_18, zs_38_19, zr_38_19, zs_38_22, zr_38_22, zs_38_23, zr_38_23, zs_38_25, zr_38_25, zs_38_26, zr_38_26, zs_38_28, zr_38_28, zs_38_29, zr_38_29, hZ, r1, r4 q, Bool.false_eq_true]
  · rw [q] at r1
    simp (decide := true) only [gN1_int, gN1_ref, gN1_null, gN1_long, gTg8_8, gTg8_14, gTg9_9, gTg9_13, gTgA_8, gTgA_9, gTgA_10, gTgA_11, gTgA_13, gTgA_14, gB01_0, gB01_1, gB01_b, List.cons_append, List.nil_append, Option.toList_some, Option.toList_none, Option.bind_some, ↓reduceIte, eq_self, not_true_eq_false, not_false_eq_true, b2i_0, b2i_1, up_eq, up_ne, up_up, up_sort, up_self, fl_at, nI_s, q_96_0, q_96_1, q_96_4, q_96_7, q_96_8, q_96_11, q_96_12, q_96_15, zk_38, zs_38_1, zr_38_1, zs_38_2, zr_38_2, zs_38_3, zr_38_3, zs_38_4, zr_38_4, zs_38_8, zr_38_8, zs_38_17, zr_38_17, zs_38_18, zr_38_18, zs_38_19, zr_38_19, zs_38_22, zr_38_22, zs_38_23, zr_38_23, zs_38_25, zr_38_25, zs_38_26, zr_38_26, zs_38_28, zr_38_28, zs_38_29, zr_38_29, hZ, r1, Bool.true_eq_false]
end
