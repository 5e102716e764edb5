/-! OVER, the class's; what is foretold of -/
section
variable {Z : gZ} {I : gI} {J : gJ}
/-- nothing but the foretelling's own cells has changed -/
def Jf (I I' : gI) : Prop := ∀ a, (a < 30 ∨ 37 < a) → I' a = I a
theorem jf_refl : Jf I I := fun _ _ => rfl
theorem jf_trans {I1 I2 I3 : gI} (h1 : Jf I1 I2) (h2 : Jf I2 I3) : Jf I1 I3 := fun a q => (h2 a q).trans (h1 a q)
theorem jf_w {I1 I2 : gI} (h : Jw I1 I2) : Jf I1 I2 := fun a q => h a (by omega) (by omega)
theorem jf_b {I1 I2 : gI} {v g o : Int32} (h : Jb I1 I2 v g o) : Jf I1 I2 := fun a q => h.1 a (by omega) (by omega) (by omega)
theorem jf_u {I1 I2 : gI} (h : Jf I1 I2) {a : Nat} {f : Nat → Int32} (ha : 30 ≤ a ∧ a ≤ 37) : Jf I1 (va_up I2 a f) := fun b q => by rw [up_ne (by omega)]; exact h b q
def ovH (h : Nat → Int32) (N g : Nat) : Nat → Int32 := if h g = -1 then h else fl (hoH h g) h N
def ovS (h s : Nat → Int32) (N g : Nat) : Nat → Int32 := if h g = -1 then s else fl (hoS h s g) s N
theorem ov_hw {h : Nat → Int32} {N g : Nat} (hw : Hw h N) (hg : g < 10) : Hw (ovH h N g) N := by
  intro a ha
  unfold ovH
  by_cases q : h g = -1
  · rw [if_pos q]; exact hw a ha
  · rw [if_neg q]
    by_cases q2 : a < N
    · rw [fl_lt q2, hoH]
      split
      · exact hw g hg
      · exact hw a ha
    · rw [fl_ge q2]; exact hw a ha
theorem ov_ag {h s k d h' s' k' d' : Nat → Int32} {N g : Nat} (ha : Ag h s k d h' s' k' d') (hg : g < 10) : Ag (ovH h N g) (ovS h s N g) k d (ovH h' N g) (ovS h' s' N g) k' d' := by
  intro j hj
  obtain ⟨e1, e2, e3, e4⟩ := ha j hj
  obtain ⟨g1, g2, g3, g4⟩ := ha g hg
  refine ⟨?_, ?_, e3, e4⟩
  · unfold ovH
    rw [g1]
    split
    · exact e1
    · unfold fl hoH hoP
      rw [e1, g1]
  · unfold ovS
    rw [g1]
    split
    · exact e2
    · unfold fl hoS hoP
      rw [e1, g1, e2, g2]
/-- how many strike, the deaf one heard over -/
def ovF (h s k d : Nat → Int32) (w sl : Int32) (N c g : Nat) : Int32 := nI (cntB (whoP (ovH h N g) (ovS h s N g) k d w sl N c) N)
def ovT (v : Int32) (g : Nat) (st : Int32 × Int32 × Int32) : Int32 × Int32 × Int32 := if v ≤ st.1 then st else (v, v, nI g)
def ovO (f : Nat → Int32) (k : Nat → Int32) (st : Int32 × Int32 × Int32) : Nat → Int32 × Int32 × Int32
  | 0 => st
  | g + 1 => if k g = 1 then ovT (f g) g (ovO f k st g) else ovO f k st g
def ovI (I I' : gI) (v g : Int32) : Prop := Jf I I' ∧ I' 30 3 = I 30 3 ∧ I' 30 4 = I 30 4 ∧ I' 30 5 = v ∧ I' 30 6 = g
theorem ag_refl {h s k d : Nat → Int32} : Ag h s k d h s k d := fun _ _ => ⟨rfl, rfl, rfl, rfl⟩
theorem X1_seekOver (hZ : St Z) {w sl : Int32} {N c : Nat} (hF : FH I N w sl) (h3 : I 3 4 = nI N) (hw : Hw (I 4) N) (hAg : Ag (I 32) (I 33) (I 34) (I 35) (I 4) (I 5) (I 6) (I 7)) (hc : c < N) : ∃ I', g_at 19 0 [.ref 30, .ref 3, .int (nI c), .null, .null, .null] [] Z I J = some (none, Z, I', J) ∧ ovI I I' (ovO (ovF (I 4) (I 5) (I 6) (I 7) w sl N c) (I 6) (nI (cntB (whoP (I 4) (I 5) (I 6) (I 7) w sl N c) N), -1, -1) N).2.1 (ovO (ovF (I 4) (I 5) (I 6) (I 7) w sl N c) (I 6) (nI (cntB (whoP (I 4) (I 5) (I 6) (I 7) w sl N c) N), -1, -1) N).2.2 := by
  have hN := hF.2.1
  obtain ⟨I0, r1, r2⟩ := X1_strikers (I := va_up I 30 (va_up (va_up (va_up (I 30) 5 (-1)) 6 (-1)) 7 (-1))) (J := J) hZ (N := N) (c := c) (w := w) (sl := sl) (by
    unfold FH at hF ⊢
    simp (decide := true) only [up_ne, up_eq]
    exact hF) hc
  simp (decide := true) only [up_ne] at r1
  rw [ag_whB hAg hF.2.2.1 hN hc] at r1
  have hi0 : ovI I I0 (-1) (-1) := by
    have e30 := r2 30 (by decide) (by decide)
    unfold ovI
    rw [e30]
    simp (decide := true) only [up_eq, up_ne, and_self, and_true]
    exact jf_trans (jf_u jf_refl (by omega)) (jf_w r2)
  obtain ⟨b', hj, e⟩ := loop_ink (fun g (x : gI × Value) => g_at 19 16 [.ref 30, .ref 3, .int (nI c), .int (ovO (ovF (I 4) (I 5) (I 6) (I 7) w sl N c) (I 6) (nI (cntB (whoP (I 4) (I 5) (I 6) (I 7) w sl N c) N), -1, -1) g).1, .int (nI g), x.2] [] Z x.1 J) (fun g x => ovI I x.1 (ovO (ovF (I 4) (I 5) (I 6) (I 7) w sl N c) (I 6) (nI (cntB (whoP (I 4) (I 5) (I 6) (I 7) w sl N c) N), -1, -1) g).2.1 (ovO (ovF (I 4) (I 5) (I 6) (I 7) w sl N c) (I 6) (nI (cntB (whoP (I 4) (I 5) (I 6) (I 7) w sl N c) N), -1, -1) g).2.2) (n := N) (fun g hg x hx => by
    obtain ⟨I1, u5⟩ := x
    try dsimp only at hx ⊢
    rw [ovO]
    generalize ovO (ovF (I 4) (I 5) (I 6) (I 7) w sl N c) (I 6) (nI (cntB (whoP (I 4) (I 5) (I 6) (I 7) w sl N c) N), -1, -1) g = st at hx ⊢
    obtain ⟨f0, f1, f2⟩ := ixs (j := g) (by omega)
    have f3 : ¬ nI N ≤ nI g := nI_ge hg (by omega)
    have f4 : g < 10 := by omega
    obtain ⟨j1, j3, j4, j5, j6⟩ := hx
    have hn : I1 3 4 = nI N := by rw [j1 3 (by omega)]; exact h3
    have e3 := j1 3 (by omega)
    have e4 := j1 4 (by omega)
    have e5 := j1 5 (by omega)
    have e6 := j1 6 (by omega)
    have e7 := j1 7 (by omega)
    by_cases hk : I 6 g = 1
    · rw [if_pos hk]
      have hcp := X0_copyFrom_31_3 (I := I1) (J := J) hZ
      rw [e3, e4, e5, e6, e7] at hcp
      have hI2 : ∀ a, (a < 30 ∨ 37 < a) ∨ a = 30 → (va_up (va_up (va_up (va_up (va_up I1 31 (va_up (va_up (I1 31) 4 (I 3 4)) 5 (I 3 5))) 32 (fl (I 4) (I1 32) 10)) 33 (fl (I 5) (I1 33) 10)) 34 (fl (I 6) (I1 34) 10)) 35 (fl (I 7) (I1 35) 10)) a = I1 a := by
        intro a q
        rw [up_ne (by omega), up_ne (by omega), up_ne (by omega), up_ne (by omega), up_ne (by omega)]
      have z31 : (va_up (va_up (va_up (va_up (va_up I1 31 (va_up (va_up (I1 31) 4 (I 3 4)) 5 (I 3 5))) 32 (fl (I 4) (I1 32) 10)) 33 (fl (I 5) (I1 33) 10)) 34 (fl (I 6) (I1 34) 10)) 35 (fl (I 7) (I1 35) 10)) 31 4 = nI N := by simp (decide := true) only [up_eq, up_ne]; exact h3
      have z32 : (va_up (va_up (va_up (va_up (va_up I1 31 (va_up (va_up (I1 31) 4 (I 3 4)) 5 (I 3 5))) 32 (fl (I 4) (I1 32) 10)) 33 (fl (I 5) (I1 33) 10)) 34 (fl (I 6) (I1 34) 10)) 35 (fl (I 7) (I1 35) 10)) 32 = fl (I 4) (I1 32) 10 := by simp (decide := true) only [up_eq, up_ne]
      have z33 : (va_up (va_up (va_up (va_up (va_up I1 31 (va_up (va_up (I1 31) 4 (I 3 4)) 5 (I 3 5))) 32 (fl (I 4) (I1 32) 10)) 33 (fl (I 5) (I1 33) 10)) 34 (fl (I 6) (I1 34) 10)) 35 (fl (I 7) (I1 35) 10)) 33 = fl (I 5) (I1 33) 10 := by simp (decide := true) only [up_eq, up_ne]
      have z34 : (va_up (va_up (va_up (va_up (va_up I1 31 (va_up (va_up (I1 31) 4 (I 3 4)) 5 (I 3 5))) 32 (fl (I 4) (I1 32) 10)) 33 (fl (I 5) (I1 33) 10)) 34 (fl (I 6) (I1 34) 10)) 35 (fl (I 7) (I1 35) 10)) 34 = fl (I 6) (I1 34) 10 := by simp (decide := true) only [up_eq, up_ne]
      have z35 : (va_up (va_up (va_up (va_up (va_up I1 31 (va_up (va_up (I1 31) 4 (I 3 4)) 5 (I 3 5))) 32 (fl (I 4) (I1 32) 10)) 33 (fl (I 5) (I1 33) 10)) 34 (fl (I 6) (I1 34) 10)) 35 (fl (I 7) (I1 35) 10)) 35 = fl (I 7) (I1 35) 10 := by simp (decide := true) only [up_eq, up_ne]
      generalize va_up (va_up (va_up (va_up (va_up I1 31 (va_up (va_up (I1 31) 4 (I 3 4)) 5 (I 3 5))) 32 (fl (I 4) (I1 32) 10)) 33 (fl (I 5) (I1 33) 10)) 34 (fl (I 6) (I1 34) 10)) 35 (fl (I 7) (I1 35) 10) = I2 at hcp hI2 z31 z32 z33 z34 z35
      have hho := X0_hearOver (J := J) hZ z31 hN f4
      have hI3 : ∀ a, (a < 30 ∨ 37 < a) ∨ a = 30 ∨ a = 31 → (if I2 32 g = -1 then I2 else va_up (va_up I2 32 (fl (hoH (I2 32) g) (I2 32) N)) 33 (fl (hoS (I2 32) (I2 33) g) (I2 33) N)) a = I2 a := by
        intro a q
        split
        · rfl
        · rw [up_ne (by omega), up_ne (by omega)]
      have y32 : (if I2 32 g = -1 then I2 else va_up (va_up I2 32 (fl (hoH (I2 32) g) (I2 32) N)) 33 (fl (hoS (I2 32) (I2 33) g) (I2 33) N)) 32 = ovH (I2 32) N g := by
        unfold ovH
        split
        · rfl
        · simp (decide := true) only [up_eq, up_ne]
      have y33 : (if I2 32 g = -1 then I2 else va_up (va_up I2 32 (fl (hoH (I2 32) g) (I2 32) N)) 33 (fl (hoS (I2 32) (I2 33) g) (I2 33) N)) 33 = ovS (I2 32) (I2 33) N g := by
        unfold ovS
        split
        · rfl
        · simp (decide := true) only [up_eq]
      have y34 : (if I2 32 g = -1 then I2 else va_up (va_up I2 32 (fl (hoH (I2 32) g) (I2 32) N)) 33 (fl (hoS (I2 32) (I2 33) g) (I2 33) N)) 34 = I2 34 := by
        split
        · rfl
        · simp (decide := true) only [up_ne]
      have y35 : (if I2 32 g = -1 then I2 else va_up (va_up I2 32 (fl (hoH (I2 32) g) (I2 32) N)) 33 (fl (hoS (I2 32) (I2 33) g) (I2 33) N)) 35 = I2 35 := by
        split
        · rfl
        · simp (decide := true) only [up_ne]
      generalize (if I2 32 g = -1 then I2 else va_up (va_up I2 32 (fl (hoH (I2 32) g) (I2 32) N)) 33 (fl (hoS (I2 32) (I2 33) g) (I2 33) N)) = I3 at hho hI3 y32 y33 y34 y35
      have hF3 : FH I3 N w sl := by
        unfold FH
        rw [hI3 31 (by omega), y32, hI3 30 (by omega), hI2 30 (by omega), j3, j4]
        refine ⟨z31, hN, ?_, hF.2.2.2.1, hF.2.2.2.2⟩
        rw [z32]
        exact ov_hw (hw_fl hw) f4
      obtain ⟨I4, s1, s2⟩ := X1_strikers (J := J) hZ hF3 hc
      have hag : Ag (I3 32) (I3 33) (I3 34) (I3 35) (ovH (I 4) N g) (ovS (I 4) (I 5) N g) (I 6) (I 7) := by
        rw [y32, y33, y34, y35, z32, z33, z34, z35]
        exact ov_ag ag_fl f4
      rw [ag_whB hag hF3.2.2.1 hN hc] at s1
      have hjf : Jf I I4 := fun a q => by rw [s2 a (by omega) (by omega), hI3 a (by omega), hI2 a (by omega)]; exact j1 a q
      have e30 : I4 30 = I1 30 := by rw [s2 30 (by decide) (by decide), hI3 30 (by omega), hI2 30 (by omega)]
      have e8 : bcI (bitsOf (whoP (ovH (I 4) N g) (ovS (I 4) (I 5) N g) (I 6) (I 7) w sl N c) N) = ovF (I 4) (I 5) (I 6) (I 7) w sl N c g := bc_bits hN
      generalize ovF (I 4) (I 5) (I 6) (I 7) w sl N c g = v at e8
      rw [q_19_16]
      by_cases q1 : v ≤ st.1
      · refine ⟨(I4, .int v), ?_, ?_⟩
        · rw [ovT, if_pos q1]
          show ovI I I4 _ _
          unfold ovI
          rw [e30]
          exact ⟨hjf, j3, j4, j5, j6⟩
        · rw [ovT, if_pos q1]
          simp (decide := true) only [gN1_int, gN1_ref, gN1_null, gN1_long, gTg8_8, gTg8_14, gTg9_9, gTg9_13, gTgA_8, gTgA_9, gTgA_10, gTgA_11, gTgA_13, gTgA_14, gB01_0, gB01_1, gB01_b, List.cons_append, List.nil_append, Option.toList_some, Option.toList_none, Option.bind_some, ↓reduceIte, eq_self, not_true_eq_false, not_false_eq_true, b2i_0, b2i_1, up_eq, up_ne, up_up, up_sort, up_self, fl_at, nI_s, q_19_0, q_19_1, q_19_4, q_19_5, q_19_6, q_19_9, q_19_12, q_19_13, q_19_14, q_19_18, q_19_19, q_19_22, q_19_25, q_19_26, q_19_29, q_19_31, q_19_32, q_19_33, q_19_36, q_19_39, q_19_40, q_19_43, q_19_44, q_19_47, q_19_48, q_19_51, q_19_53, q_19_56, q_19_57, q_19_58, q_19_61, q_19_64, q_19_66, q_19_68, q_19_69, q_19_72, q_19_74, q_19_75, q_19_76, q_19_78, q_19_80, q_19_81, q_19_84, q_19_87, q_19_90, zk_3, zk_6, zk_30, zk_31, zs_3_0, zr_3_0, zs_3_1, zr_3_1, zs_3_2, zr_3_2, zs_3_3, zr_3_3, zs_31_0, zr_31_0, zs_31_1, zr_31_1, zs_31_2, zr_31_2, zs_31_3, zr_31_3, zs_30_0, zr_30_0, zs_30_1, zr_30_1, zs_30_2, zr_30_2, hZ, hn, f0, f1, f2, f3, f4, e6, hk, hcp, hho, s1, J6_bitCount, e8, q1]
      · refine ⟨(va_up I4 30 (va_up (va_up (va_up (I4 30) 5 v) 6 (nI g)) 7 (-1)), .int v), ?_, ?_⟩
        · rw [ovT, if_neg q1]
          unfold ovI
          simp (decide := true) only [up_eq, up_ne, e30, j3, j4, and_self, and_true]
          exact jf_u hjf (by omega)
        · rw [ovT, if_neg q1]
          simp (decide := true) only [gN1_int, gN1_ref, gN1_null, gN1_long, gTg8_8, gTg8_14, gTg9_9, gTg9_13, gTgA_8, gTgA_9, gTgA_10, gTgA_11, gTgA_13, gTgA_14, gB01_0, gB01_1, gB01_b, List.cons_append, List.nil_append, Option.toList_some, Option.toList_none, Option.bind_some, ↓reduceIte, eq_self, not_true_eq_false, not_false_eq_true, b2i_0, b2i_1, up_eq, up_ne, up_up, up_sort, up_self, fl_at, nI_s, q_19_0, q_19_1, q_19_4, q_19_5, q_19_6, q_19_9, q_19_12, q_19_13, q_19_14, q_19_18, q_19_19, q_19_22, q_19_25, q_19_26, q_19_29, q_19_31, q_19_32, q_19_33, q_19_36, q_19_39, q_19_40, q_19_43, q_19_44, q_19_47, q_19_48, q_19_51, q_19_53, q_19_56, q_19_57, q_19_58, q_19_61, q_19_64, q_19_66, q_19_68, q_19_69, q_19_72, q_19_74, q_19_75, q_19_76, q_19_78, q_19_80, q_19_81, q_19_84, q_19_87, q_19_90, zk_3, zk_6, zk_30, zk_31, zs_3_0, zr_3_0, zs_3_1, zr_3_1, zs_3_2, zr_3_2, zs_3_3, zr_3_3, zs_31_0, zr_31_0, zs_31_1, zr_31_1, zs_31_2, zr_31_2, zs_31_3, zr_31_3, zs_30_0, zr_30_0, zs_30_1, zr_30_1, zs_30_2, zr_30_2, hZ, hn, f0, f1, f2, f3, f4, e6, hk, hcp, hho, s1, J6_bitCount, e8, q1, X1_setBest hZ]
    · rw [if_neg hk]
      refine ⟨(I1, u5), ⟨j1, j3, j4, j5, j6⟩, ?_⟩
      rw [q_19_16]
      simp (decide := true) only [gN1_int, gN1_ref, gN1_null, gN1_long, gTg8_8, gTg8_14, gTg9_9, gTg9_13, gTgA_8, gTgA_9, gTgA_10, gTgA_11, gTgA_13, gTgA_14, gB01_0, gB01_1, gB01_b, List.cons_append, List.nil_append, Option.toList_some, Option.toList_none, Option.bind_some, ↓reduceIte, eq_self, not_true_eq_false, not_false_eq_true, b2i_0, b2i_1, up_eq, up_ne, up_up, up_sort, up_self, fl_at, nI_s, q_19_0, q_19_1, q_19_4, q_19_5, q_19_6, q_19_9, q_19_12, q_19_13, q_19_14, q_19_18, q_19_19, q_19_22, q_19_25, q_19_26, q_19_29, q_19_31, q_19_32, q_19_33, q_19_36, q_19_39, q_19_40, q_19_43, q_19_44, q_19_47, q_19_48, q_19_51, q_19_53, q_19_56, q_19_57, q_19_58, q_19_61, q_19_64, q_19_66, q_19_68, q_19_69, q_19_72, q_19_74, q_19_75, q_19_76, q_19_78, q_19_80, q_19_81, q_19_84, q_19_87, q_19_90, zk_3, zk_6, zk_30, zk_31, zs_3_0, zr_3_0, zs_3_1, zr_3_1, zs_3_2, zr_3_2, zs_3_3, zr_3_3, zs_31_0, zr_31_0, zs_31_1, zr_31_1, zs_31_2, zr_31_2, zs_31_3, zr_31_3, zs_30_0, zr_30_0, zs_30_1, zr_30_1, zs_30_2, zr_30_2, hZ, hn, f0, f1, f2, f3, f4, e6, hk]) (I0, .null) hi0
  refine ⟨b'.1, ?_, hj⟩
  have hn : b'.1 3 4 = nI N := by rw [hj.1 3 (by omega)]; exact h3
  simp only [ovO, nI_0] at e
  simp (decide := true) only [gN1_int, gN1_ref, gN1_null, gN1_long, gTg8_8, gTg8_14, gTg9_9, gTg9_13, gTgA_8, gTgA_9, gTgA_10, gTgA_11, gTgA_13, gTgA_14, gB01_0, gB01_1, gB01_b, List.cons_append, List.nil_append, Option.toList_some, Option.toList_none, Option.bind_some, ↓reduceIte, eq_self, not_true_eq_false, not_false_eq_true, b2i_0, b2i_1, up_eq, up_ne, up_up, up_sort, up_self, fl_at, nI_s, q_19_0, q_19_1, q_19_4, q_19_5, q_19_6, q_19_9, q_19_12, q_19_13, q_19_14, zk_30, zs_30_0, zr_30_0, zs_30_1, zr_30_1, zs_30_2, zr_30_2, hZ, X1_forgetBest hZ, r1, J6_bitCount, bc_bits, hN]
  rw [e, q_19_16]
  simp (decide := true) only [gN1_int, gN1_ref, gN1_null, gN1_long, gTg8_8, gTg8_14, gTg9_9, gTg9_13, gTgA_8, gTgA_9, gTgA_10, gTgA_11, gTgA_13, gTgA_14, gB01_0, gB01_1, gB01_b, List.cons_append, List.nil_append, Option.toList_some, Option.toList_none, Option.bind_some, ↓reduceIte, eq_self, not_true_eq_false, not_false_eq_true, b2i_0, b2i_1, up_eq, up_ne, up_up, up_sort, up_self, fl_at, nI_s, q_19_0, q_19_1, q_19_4, q_19_5, q_19_6, q_19_9, q_19_12, q_19_13, q_19_14, q_19_18, q_19_19, q_19_22, q_19_25, q_19_26, q_19_29, q_19_31, q_19_32, q_19_33, q_19_36, q_19_39, q_19_40, q_19_43, q_19_44, q_19_47, q_19_48, q_19_51, q_19_53, q_19_56, q_19_57, q_19_58, q_19_61, q_19_64, q_19_66, q_19_68, q_19_69, q_19_72, q_19_74, q_19_75, q_19_76, q_19_78, q_19_80, q_19_81, q_19_84, q_19_87, q_19_90, zk_3, zk_30, zs_3_0, zr_3_0, zs_3_1, zr_3_1, zs_3_2, zr_3_2, zs_3_3, zr_3_3, zs_30_0, zr_30_0, zs_30_1, zr_30_1, zs_30_2, zr_30_2, hZ, hn, Int32.le_refl]
/-- the foretelling, made ready -/
def spI (I : gI) : gI := va_up (va_up (va_up (va_up (va_up (va_up I 30 (va_up (va_up (I 30) 3 (I 13 4)) 4 (-1))) 31 (va_up (va_up (I 31) 4 (I 3 4)) 5 (I 3 5))) 32 (fl (I 4) (I 32) 10)) 33 (fl (I 5) (I 33) 10)) 34 (fl (I 6) (I 34) 10)) 35 (fl (I 7) (I 35) 10)
theorem X6_foretold (hZ : St Z) : g_at 75 0 [.ref 0] [] Z I J = some (some (.ref 30), Z, spI I, J) := by
  simp (decide := true) only [gN1_int, gN1_ref, gN1_null, gN1_long, gTg8_8, gTg8_14, gTg9_9, gTg9_13, gTgA_8, gTgA_9, gTgA_10, gTgA_11, gTgA_13, gTgA_14, gB01_0, gB01_1, gB01_b, List.cons_append, List.nil_append, Option.toList_some, Option.toList_none, Option.bind_some, ↓reduceIte, eq_self, not_true_eq_false, not_false_eq_true, b2i_0, b2i_1, up_eq, up_ne, up_up, up_sort, up_self, fl_at, nI_s, q_75_0, q_75_1, q_75_4, q_75_5, q_75_8, q_75_9, q_75_12, q_75_15, q_75_18, q_75_19, q_75_22, zk_0, zk_3, zk_13, zk_30, zs_0_0, zr_0_0, zs_0_1, zr_0_1, zs_0_2, zr_0_2, zs_0_3, zr_0_3, zs_0_4, zr_0_4, zs_0_5, zr_0_5, zs_0_6, zr_0_6, zs_0_7, zr_0_7, zs_3_0, zr_3_0, zs_3_1, zr_3_1, zs_3_2, zr_3_2, zs_3_3, zr_3_3, zs_13_0, zr_13_0, zs_13_1, zr_13_1, zs_13_2, zr_13_2, zs_30_0, zr_30_0, zs_30_1, zr_30_1, zs_30_2, zr_30_2, hZ, X1_suppose hZ, spI]
theorem sp_FH {N : Nat} (h3 : I 3 4 = nI N) (hN : N ≤ 10) (hw : Hw (I 4) N) : FH (spI I) N (I 13 4) (-1) := by
  unfold FH spI
  simp (decide := true) only [up_eq, up_ne, and_true]
  exact ⟨h3, hN, hw_fl hw⟩
theorem sp_Ag : Ag (spI I 32) (spI I 33) (spI I 34) (spI I 35) (I 4) (I 5) (I 6) (I 7) := by
  unfold spI
  simp (decide := true) only [up_eq, up_ne]
  exact ag_fl
theorem sp_Jf : Jf I (spI I) := by
  unfold spI
  exact jf_u (jf_u (jf_u (jf_u (jf_u (jf_u jf_refl (by omega)) (by omega)) (by omega)) (by omega)) (by omega)) (by omega)
end
