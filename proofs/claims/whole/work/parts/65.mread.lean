/-! the reference: isLine, isRead, fault -/
section
variable {Z : gZ} {I : gI} {J : gJ}
def MG (I I' : gI) (J J' : gJ) : Prop := (∀ a, a ≠ 38 → a ≠ 44 → I' a = I a) ∧ (∀ k, (k < 9 ∨ k = 15 ∨ 16 < k) → I' 38 k = I 38 k) ∧ (∀ a, a ≠ 38 → J' a = J a)
theorem mg_trans {I1 I2 I3 : gI} {J1 J2 J3 : gJ} (h1 : MG I1 I2 J1 J2) (h2 : MG I2 I3 J2 J3) : MG I1 I3 J1 J3 := ⟨fun a q1 q2 => (h2.1 a q1 q2).trans (h1.1 a q1 q2), fun k q => (h2.2.1 k q).trans (h1.2.1 k q), fun a q => (h2.2.2 a q).trans (h1.2.2 a q)⟩
theorem mf_g {I1 I2 : gI} {J1 J2 : gJ} (h : MF I1 I2 J1 J2) : MG I1 I2 J1 J2 := ⟨h.1, fun k q => h.2.1 k (by omega), h.2.2⟩
/-- the line l stands in the row of what was read, at place w -/
def rdM (r : Nat → Int32) (w : Nat) (l : Nat × Int32 × Int32 × Int32) : Prop := r w = (if l.1 < 3 then nI (l.1 + 7) else nI (l.1 - 3)) ∧ (l.1 < 7 → r (w + 1) = l.2.1) ∧ ((l.1 = 1 ∨ (3 ≤ l.1 ∧ l.1 < 7)) → r (w + 2) = l.2.2.1) ∧ (l.1 = 1 → r (w + 3) = l.2.2.2)
theorem rd_congr {r r' : Nat → Int32} {w : Nat} {l : Nat × Int32 × Int32 × Int32} (h : ∀ j, j < w + 4 → r' j = r j) (hr : rdM r w l) : rdM r' w l := ⟨by rw [h w (by omega)]; exact hr.1, fun q => by rw [h (w + 1) (by omega)]; exact hr.2.1 q, fun q => by rw [h (w + 2) (by omega)]; exact hr.2.2.1 q, fun q => by rw [h (w + 3) (by omega)]; exact hr.2.2.2 q⟩
theorem X7_isLine (hZ : St Z) {T e w : Nat} {G : Int32} (hT : I 38 7 = nI T) (hT2 : T ≤ 200) (he : I 38 9 = nI e) (he2 : e ≤ T) (hw : w + 3 < 48) (hG : I 38 16 = G) : ∃ I' J', g_at 94 0 [.ref 38, .int (nI w), .null, .null] [] Z I J = some (some (.int (b2i (lnF (I 43) T e G).1)), Z, I', J') ∧ MG I I' J J' ∧ ((lnF (I 43) T e G).1 = true → I' 38 9 = nI (lnF (I 43) T e G).2.1 ∧ I' 38 16 = (if (lnF (I 43) T e G).2.2.1 = 0 then (lnF (I 43) T e G).2.2.2.1 else G) ∧ rdM (I' 44) w (lnF (I 43) T e G).2.2 ∧ ∀ j, j < w → I' 44 j = I 44 j) ∧ ((lnF (I 43) T e G).1 = false → I' 38 14 = nI (lnF (I 43) T e G).2.1) := by
  obtain ⟨-, b1, b2, b3⟩ := tk_le (I 43) he2
  have hwd := tk_wd (t := I 43) b1
  rw [show tkE (I 43) T (tkS (I 43) T e) = tkN (I 43) T e from rfl] at hwd
  unfold lnF
  rcases hwd with ⟨hk, htok⟩ | ⟨hk, hno⟩
  · obtain ⟨a, b, c, hc, r0⟩ := X7_ln_tok (J := J) hZ hT hT2 he he2 (w := w) (by omega) hk htok
    have mf1 : MF I (va_up (va_up I 38 (va_up (va_up (va_up (va_up (I 38) 9 (nI (tkN (I 43) T e))) 10 (nI (tkS (I 43) T e))) 12 (tkD (I 43) T (tkS (I 43) T e))) 13 (tkV (I 43) T (tkS (I 43) T e)))) 44 (va_up (I 44) w c)) J (va_up J 38 (va_up (J 38) 11 (Int64.ofNat (wW (wdN (I 43) T (tkS (I 43) T e) (tkN (I 43) T e)))))) := mf_trans mf_0 mf_44
    have p9 : (va_up (va_up I 38 (va_up (va_up (va_up (va_up (I 38) 9 (nI (tkN (I 43) T e))) 10 (nI (tkS (I 43) T e))) 12 (tkD (I 43) T (tkS (I 43) T e))) 13 (tkV (I 43) T (tkS (I 43) T e)))) 44 (va_up (I 44) w c)) 38 9 = nI (tkN (I 43) T e) := by simp (decide := true) only [up_eq, up_ne]
    have p44 : (va_up (va_up I 38 (va_up (va_up (va_up (va_up (I 38) 9 (nI (tkN (I 43) T e))) 10 (nI (tkS (I 43) T e))) 12 (tkD (I 43) T (tkS (I 43) T e))) 13 (tkV (I 43) T (tkS (I 43) T e)))) 44 (va_up (I 44) w c)) 44 = va_up (I 44) w c := up_eq
    generalize (va_up (va_up I 38 (va_up (va_up (va_up (va_up (I 38) 9 (nI (tkN (I 43) T e))) 10 (nI (tkS (I 43) T e))) 12 (tkD (I 43) T (tkS (I 43) T e))) 13 (tkV (I 43) T (tkS (I 43) T e)))) 44 (va_up (I 44) w c)) = I1 at r0 mf1 p9 p44
    generalize (va_up J 38 (va_up (J 38) 11 (Int64.ofNat (wW (wdN (I 43) T (tkS (I 43) T e) (tkN (I 43) T e)))))) = J1 at r0 mf1
    have x43 : I1 43 = I 43 := mf1.1 43 (by decide) (by decide)
    have x7 : I1 38 7 = nI T := by rw [mf1.2.1 7 (by omega)]; exact hT
    have x16 : I1 38 16 = G := by rw [mf1.2.1 16 (by omega)]; exact hG
    generalize wdN (I 43) T (tkS (I 43) T e) (tkN (I 43) T e) = k at hk hc ⊢
    rw [r0]
    rcases (by omega : (7 ≤ k ∧ k < 10) ∨ (3 ≤ k ∧ k < 7) ∨ k = 0 ∨ k = 1 ∨ k = 2) with q | q | q | q | q
    · rw [if_neg (show ¬ k = 10 by omega), if_pos q.1]
      refine ⟨I1, J1, ?_, mf_g mf1, fun _ => ⟨p9, ?_, ⟨?_, ?_, ?_, ?_⟩, ?_⟩, fun z => b_tf z⟩
      · rcases (by omega : k = 7 ∨ k = 8 ∨ k = 9) with rfl | rfl | rfl
        · have hc' : c = 4 := hc
          subst hc'
          simp (decide := true) only [gN1_int, gN1_ref, gN1_null, gN1_long, gTg8_8, gTg8_14, gTg9_9, gTg9_13, gTgA_8, gTgA_9, gTgA_10, gTgA_11, gTgA_13, gTgA_14, gB01_0, gB01_1, gB01_b, List.cons_append, List.nil_append, Option.toList_some, Option.toList_none, Option.bind_some, ↓reduceIte, eq_self, not_true_eq_false, not_false_eq_true, b2i_0, b2i_1, up_eq, up_ne, up_up, up_sort, up_self, fl_at, nI_s, q_94_184, q_94_269, q_94_270]
          rfl
        · have hc' : c = 5 := hc
          subst hc'
          simp (decide := true) only [gN1_int, gN1_ref, gN1_null, gN1_long, gTg8_8, gTg8_14, gTg9_9, gTg9_13, gTgA_8, gTgA_9, gTgA_10, gTgA_11, gTgA_13, gTgA_14, gB01_0, gB01_1, gB01_b, List.cons_append, List.nil_append, Option.toList_some, Option.toList_none, Option.bind_some, ↓reduceIte, eq_self, not_true_eq_false, not_false_eq_true, b2i_0, b2i_1, up_eq, up_ne, up_up, up_sort, up_self, fl_at, nI_s, q_94_184, q_94_269, q_94_270]
          rfl
        · have hc' : c = 6 := hc
          subst hc'
          simp (decide := true) only [gN1_int, gN1_ref, gN1_null, gN1_long, gTg8_8, gTg8_14, gTg9_9, gTg9_13, gTgA_8, gTgA_9, gTgA_10, gTgA_11, gTgA_13, gTgA_14, gB01_0, gB01_1, gB01_b, List.cons_append, List.nil_append, Option.toList_some, Option.toList_none, Option.bind_some, ↓reduceIte, eq_self, not_true_eq_false, not_false_eq_true, b2i_0, b2i_1, up_eq, up_ne, up_up, up_sort, up_self, fl_at, nI_s, q_94_184, q_94_269, q_94_270]
          rfl
      · rw [if_neg (show ¬ k = 0 by omega)]; exact x16
      · rw [p44, up_eq]; exact hc
      · intro z; exact absurd z (show ¬ k < 7 by omega)
      · intro z; exact absurd z (show ¬ (k = 1 ∨ 3 ≤ k ∧ k < 7) by omega)
      · intro z; exact absurd z (show ¬ k = 1 by omega)
      · intro j hj; rw [p44, up_ne (by omega)]
    · rw [if_neg (show ¬ k = 10 by omega), if_neg (show ¬ 7 ≤ k by omega), if_pos q.1]
      obtain ⟨I2, J2, s1, s2, s3, s4, s5⟩ := X7_l240 (I := I1) (J := J1) hZ x7 hT2 p9 b3 hw x16 (la := .int a) (lb := .int b)
      rw [x43] at s1 s3 s4 s5
      have hsw : g_at 94 184 [.ref 38, .int (nI w), .int a, .int b] [.int c] Z I1 J1 = g_at 94 240 [.ref 38, .int (nI w), .int a, .int b] [] Z I1 J1 := by
        rcases (by omega : k = 3 ∨ k = 4 ∨ k = 5 ∨ k = 6) with rfl | rfl | rfl | rfl
        · have hc' : c = 0 := hc
          subst hc'
          simp (decide := true) only [gN1_int, gN1_ref, gN1_null, gN1_long, gTg8_8, gTg8_14, gTg9_9, gTg9_13, gTgA_8, gTgA_9, gTgA_10, gTgA_11, gTgA_13, gTgA_14, gB01_0, gB01_1, gB01_b, List.cons_append, List.nil_append, Option.toList_some, Option.toList_none, Option.bind_some, ↓reduceIte, eq_self, not_true_eq_false, not_false_eq_true, b2i_0, b2i_1, up_eq, up_ne, up_up, up_sort, up_self, fl_at, nI_s, q_94_184]
        · have hc' : c = 1 := hc
          subst hc'
          simp (decide := true) only [gN1_int, gN1_ref, gN1_null, gN1_long, gTg8_8, gTg8_14, gTg9_9, gTg9_13, gTgA_8, gTgA_9, gTgA_10, gTgA_11, gTgA_13, gTgA_14, gB01_0, gB01_1, gB01_b, List.cons_append, List.nil_append, Option.toList_some, Option.toList_none, Option.bind_some, ↓reduceIte, eq_self, not_true_eq_false, not_false_eq_true, b2i_0, b2i_1, up_eq, up_ne, up_up, up_sort, up_self, fl_at, nI_s, q_94_184]
        · have hc' : c = 2 := hc
          subst hc'
          simp (decide := true) only [gN1_int, gN1_ref, gN1_null, gN1_long, gTg8_8, gTg8_14, gTg9_9, gTg9_13, gTgA_8, gTgA_9, gTgA_10, gTgA_11, gTgA_13, gTgA_14, gB01_0, gB01_1, gB01_b, List.cons_append, List.nil_append, Option.toList_some, Option.toList_none, Option.bind_some, ↓reduceIte, eq_self, not_true_eq_false, not_false_eq_true, b2i_0, b2i_1, up_eq, up_ne, up_up, up_sort, up_self, fl_at, nI_s, q_94_184]
        · have hc' : c = 3 := hc
          subst hc'
          simp (decide := true) only [gN1_int, gN1_ref, gN1_null, gN1_long, gTg8_8, gTg8_14, gTg9_9, gTg9_13, gTgA_8, gTgA_9, gTgA_10, gTgA_11, gTgA_13, gTgA_14, gB01_0, gB01_1, gB01_b, List.cons_append, List.nil_append, Option.toList_some, Option.toList_none, Option.bind_some, ↓reduceIte, eq_self, not_true_eq_false, not_false_eq_true, b2i_0, b2i_1, up_eq, up_ne, up_up, up_sort, up_self, fl_at, nI_s, q_94_184]
      rw [hsw, s1]
      refine ⟨I2, J2, ?_, mf_g (mf_trans mf1 s2), fun z => ?_, fun z => ?_⟩
      · cases okN (I 43) T (tkN (I 43) T e) 0 (G - 1) <;> cases okN (I 43) T (tkN (I 43) T (tkN (I 43) T e)) 1 20 <;> rfl
      · cases o1 : okN (I 43) T (tkN (I 43) T e) 0 (G - 1)
        · rw [o1] at z
          exact b_ft z
        · cases o2 : okN (I 43) T (tkN (I 43) T (tkN (I 43) T e)) 1 20
          · rw [o1, o2] at z
            exact b_ft z
          · obtain ⟨v1, v2⟩ := s3 o1 o2
            rw [p44] at v2
            refine ⟨v1, ?_, ⟨?_, ?_, ?_, ?_⟩, ?_⟩
            · show I2 38 16 = if k = 0 then _ else G
              rw [if_neg (show ¬ k = 0 by omega), s2.2.1 16 (by omega)]; exact x16
            · rw [v2, up_ne (by omega), up_ne (by omega), up_eq]; exact hc
            · intro _; rw [v2, up_ne (by omega), up_eq]; rfl
            · intro _; rw [v2, up_eq]; rfl
            · intro z; exact absurd z (show ¬ k = 1 by omega)
            · intro j hj; rw [v2, up_ne (by omega), up_ne (by omega), up_ne (by omega)]
      · cases o1 : okN (I 43) T (tkN (I 43) T e) 0 (G - 1)
        · exact s4 o1
        · cases o2 : okN (I 43) T (tkN (I 43) T (tkN (I 43) T e)) 1 20
          · exact s5 o1 o2
          · rw [o1, o2] at z
            exact b_tf z
    · subst q
      have hc' : c = 7 := hc
      subst hc'
      rw [if_neg (by decide), if_neg (by decide), if_neg (by decide), if_pos rfl]
      obtain ⟨I2, J2, s1, s2, s3, s4, s5, s6⟩ := X7_l271 (I := I1) (J := J1) hZ x7 hT2 p9 b3 hw x16 (la := .int a) (lb := .int b)
      rw [x43] at s1 s5 s6
      refine ⟨I2, J2, ?_, mg_trans (mf_g mf1) ⟨s2, s3, s4⟩, fun z => ?_, fun z => ?_⟩
      · simp (decide := true) only [gN1_int, gN1_ref, gN1_null, gN1_long, gTg8_8, gTg8_14, gTg9_9, gTg9_13, gTgA_8, gTgA_9, gTgA_10, gTgA_11, gTgA_13, gTgA_14, gB01_0, gB01_1, gB01_b, List.cons_append, List.nil_append, Option.toList_some, Option.toList_none, Option.bind_some, ↓reduceIte, eq_self, not_true_eq_false, not_false_eq_true, b2i_0, b2i_1, up_eq, up_ne, up_up, up_sort, up_self, fl_at, nI_s, q_94_184]
        rw [s1]
        cases okN (I 43) T (tkN (I 43) T e) 2 10 <;> rfl
      · cases o1 : okN (I 43) T (tkN (I 43) T e) 2 10
        · rw [o1] at z
          exact b_ft z
        · obtain ⟨v1, v2, v3⟩ := s5 o1
          rw [p44] at v3
          refine ⟨v1, v2, ⟨?_, ?_, ?_, ?_⟩, ?_⟩
          · rw [v3, up_ne (by omega), up_eq]; rfl
          · intro _; rw [v3, up_eq]; rfl
          · intro z; exact absurd (show (0 : Nat) = 1 ∨ 3 ≤ (0 : Nat) ∧ (0 : Nat) < 7 from z) (by omega)
          · intro z; exact absurd (show (0 : Nat) = 1 from z) (by omega)
          · intro j hj; rw [v3, up_ne (by omega), up_ne (by omega)]
      · cases o1 : okN (I 43) T (tkN (I 43) T e) 2 10
        · exact s6 o1
        · rw [o1] at z
          exact b_tf z
    · subst q
      have hc' : c = 8 := hc
      subst hc'
      rw [if_neg (by decide), if_neg (by decide), if_neg (by decide), if_neg (by decide), if_pos rfl]
      obtain ⟨I2, J2, s1, s2, s3, s4, s5, s6⟩ := X7_isHearing (I := I1) (J := J1) hZ x7 hT2 p9 b3 hw x16
      rw [x43] at s1 s3 s4 s5 s6
      refine ⟨I2, J2, ?_, mf_g (mf_trans mf1 s2), fun z => ?_, fun z => ?_⟩
      · simp (decide := true) only [gN1_int, gN1_ref, gN1_null, gN1_long, gTg8_8, gTg8_14, gTg9_9, gTg9_13, gTgA_8, gTgA_9, gTgA_10, gTgA_11, gTgA_13, gTgA_14, gB01_0, gB01_1, gB01_b, List.cons_append, List.nil_append, Option.toList_some, Option.toList_none, Option.bind_some, ↓reduceIte, eq_self, not_true_eq_false, not_false_eq_true, b2i_0, b2i_1, up_eq, up_ne, up_up, up_sort, up_self, fl_at, nI_s, q_94_184, q_94_300, q_94_301, q_94_302, q_94_305, zk_38, zs_38_1, zr_38_1, zs_38_2, zr_38_2, zs_38_3, zr_38_3, zs_38_4, zr_38_4, zs_38_8, zr_38_8, zs_38_17, zr_38_17, zs_38_18, zr_38_18, zs_38_19, zr_38_19, zs_38_22, zr_38_22, zs_38_23, zr_38_23, zs_38_25, zr_38_25, zs_38_26, zr_38_26, zs_38_28, zr_38_28, zs_38_29, zr_38_29, hZ, s1]
        by_cases o3 : nuV (I 43) T (tkN (I 43) T (tkN (I 43) T e)) = nuV (I 43) T (tkN (I 43) T e) <;> cases okN (I 43) T (tkN (I 43) T e) 0 (G - 1) <;> cases okN (I 43) T (tkN (I 43) T (tkN (I 43) T e)) 0 (G - 1) <;> cases okN (I 43) T (tkN (I 43) T (tkN (I 43) T (tkN (I 43) T e))) 1 9 <;> simp [o3]
      · by_cases o3 : nuV (I 43) T (tkN (I 43) T (tkN (I 43) T e)) = nuV (I 43) T (tkN (I 43) T e) <;> cases o1 : okN (I 43) T (tkN (I 43) T e) 0 (G - 1) <;> cases o2 : okN (I 43) T (tkN (I 43) T (tkN (I 43) T e)) 0 (G - 1) <;> cases o4 : okN (I 43) T (tkN (I 43) T (tkN (I 43) T (tkN (I 43) T e))) 1 9 <;> simp only [o1, o2, o3, o4, if_true, if_false, and_true, and_false, not_true_eq_false, not_false_eq_true, Bool.false_eq_true] at z ⊢
        obtain ⟨v1, v2⟩ := s3 o1 o2 o3 o4
        rw [p44] at v2
        refine ⟨v1, ?_, ⟨?_, ?_, ?_, ?_⟩, ?_⟩
        · rw [if_neg (by decide), s2.2.1 16 (by omega)]; exact x16
        · rw [v2, up_ne (by omega), up_ne (by omega), up_ne (by omega), up_eq]; rfl
        · intro _; rw [v2, up_ne (by omega), up_ne (by omega), up_eq]
        · intro _; rw [v2, up_ne (by omega), up_eq]
        · intro _; rw [v2, up_eq]
        · intro j hj; rw [v2, up_ne (by omega), up_ne (by omega), up_ne (by omega), up_ne (by omega)]
      · by_cases o3 : nuV (I 43) T (tkN (I 43) T (tkN (I 43) T e)) = nuV (I 43) T (tkN (I 43) T e) <;> cases o1 : okN (I 43) T (tkN (I 43) T e) 0 (G - 1) <;> cases o2 : okN (I 43) T (tkN (I 43) T (tkN (I 43) T e)) 0 (G - 1) <;> cases o4 : okN (I 43) T (tkN (I 43) T (tkN (I 43) T (tkN (I 43) T e))) 1 9 <;> simp [o1, o2, o3, o4] at z ⊢ <;> first | exact s4 o1 | exact s5 o1 (Or.inr o3) | exact s5 o1 (Or.inl o2) | exact s6 o1 o2 o3 o4
    · subst q
      have hc' : c = 9 := hc
      subst hc'
      rw [if_neg (by decide), if_neg (by decide), if_neg (by decide), if_neg (by decide), if_neg (by decide)]
      obtain ⟨I2, J2, s1, s2, s3, s4, s5, s6⟩ := X7_isThere (I := I1) (J := J1) hZ x7 hT2 p9 b3 (w := w + 1) (by omega) x16
      rw [x43] at s1 s3 s4 s5 s6
      refine ⟨I2, J2, ?_, mf_g (mf_trans mf1 s2), fun z => ?_, fun z => ?_⟩
      · simp (decide := true) only [gN1_int, gN1_ref, gN1_null, gN1_long, gTg8_8, gTg8_14, gTg9_9, gTg9_13, gTgA_8, gTgA_9, gTgA_10, gTgA_11, gTgA_13, gTgA_14, gB01_0, gB01_1, gB01_b, List.cons_append, List.nil_append, Option.toList_some, Option.toList_none, Option.bind_some, ↓reduceIte, eq_self, not_true_eq_false, not_false_eq_true, b2i_0, b2i_1, up_eq, up_ne, up_up, up_sort, up_self, fl_at, nI_s, q_94_184, q_94_306, q_94_307, q_94_308, q_94_309, q_94_310, q_94_313, zk_38, zs_38_1, zr_38_1, zs_38_2, zr_38_2, zs_38_3, zr_38_3, zs_38_4, zr_38_4, zs_38_8, zr_38_8, zs_38_17, zr_38_17, zs_38_18, zr_38_18, zs_38_19, zr_38_19, zs_38_22, zr_38_22, zs_38_23, zr_38_23, zs_38_25, zr_38_25, zs_38_26, zr_38_26, zs_38_28, zr_38_28, zs_38_29, zr_38_29, hZ, show nI w + 1 = nI (w + 1) from nI_1 w, s1]
        cases okN (I 43) T (tkN (I 43) T e) 0 (G - 1) <;> rfl
      · cases o1 : okN (I 43) T (tkN (I 43) T e) 0 (G - 1)
        · rw [o1] at z
          exact b_ft z
        · have v2 := s5 o1
          rw [p44] at v2
          refine ⟨?_, ?_, ⟨?_, ?_, ?_, ?_⟩, ?_⟩
          · rw [s3]; rfl
          · rw [s2.2.1 16 (by omega)]; exact x16
          · rw [v2, up_ne (by omega), up_eq]; rfl
          · intro _; rw [v2, up_eq]; rfl
          · intro z; exact absurd (show (2 : Nat) = 1 ∨ 3 ≤ (2 : Nat) ∧ (2 : Nat) < 7 from z) (by omega)
          · intro z; exact absurd (show (2 : Nat) = 1 from z) (by omega)
          · intro j hj; rw [v2, up_ne (by omega), up_ne (by omega)]
      · cases o1 : okN (I 43) T (tkN (I 43) T e) 0 (G - 1)
        · exact (s6 o1).1
        · rw [o1] at z
          exact b_tf z
  · have r0 := X7_ln_none (J := J) hZ hT hT2 he he2 (w := w) (by omega) hno
    rw [if_pos hk, r0]
    refine ⟨va_up (va_up (va_up I 38 (va_up (va_up (va_up (va_up (I 38) 9 (nI (tkN (I 43) T e))) 10 (nI (tkS (I 43) T e))) 12 (tkD (I 43) T (tkS (I 43) T e))) 13 (tkV (I 43) T (tkS (I 43) T e)))) 38 (va_up (va_up (va_up (va_up (va_up (I 38) 9 (nI (tkN (I 43) T e))) 10 (nI (tkS (I 43) T e))) 12 (tkD (I 43) T (tkS (I 43) T e))) 13 (tkV (I 43) T (tkS (I 43) T e))) 14 (nI (tkS (I 43) T e)))) 44 (va_up (I 44) w (-1)), va_up J 38 (va_up (J 38) 11 (tkT (I 43) T (tkS (I 43) T e))), ?_, ⟨fun a h1 h2 => by rw [up_ne h2, up_ne h1, up_ne h1], fun k h => by rw [up_ne (by decide), up_eq, up_ne (by omega), up_ne (by omega), up_ne (by omega), up_ne (by omega), up_ne (by omega)], fun a h => up_ne h⟩, fun z => b_ft z, fun _ => ?_⟩
    · simp (decide := true) only [gN1_int, gN1_ref, gN1_null, gN1_long, gTg8_8, gTg8_14, gTg9_9, gTg9_13, gTgA_8, gTgA_9, gTgA_10, gTgA_11, gTgA_13, gTgA_14, gB01_0, gB01_1, gB01_b, List.cons_append, List.nil_append, Option.toList_some, Option.toList_none, Option.bind_some, ↓reduceIte, eq_self, not_true_eq_false, not_false_eq_true, b2i_0, b2i_1, up_eq, up_ne, up_up, up_sort, up_self, fl_at, nI_s, q_94_184, q_94_314, q_94_315, q_94_318, zk_38, zs_38_1, zr_38_1, zs_38_2, zr_38_2, zs_38_3, zr_38_3, zs_38_4, zr_38_4, zs_38_8, zr_38_8, zs_38_17, zr_38_17, zs_38_18, zr_38_18, zs_38_19, zr_38_19, zs_38_22, zr_38_22, zs_38_23, zr_38_23, zs_38_25, zr_38_25, zs_38_26, zr_38_26, zs_38_28, zr_38_28, zs_38_29, zr_38_29, hZ, X7_fails hZ]
      rfl
    · simp (decide := true) only [up_eq, up_ne]
end
