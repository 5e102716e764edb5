/-! CHANGE and OVER, the class's -/
section
variable {Z : gZ} {I : gI} {J : gJ}
/-- nothing but the ways and the best has changed -/
def Jb (I I' : gI) (v g o : Int32) : Prop := (∀ a, a ≠ 36 → a ≠ 37 → a ≠ 30 → I' a = I a) ∧ I' 30 3 = I 30 3 ∧ I' 30 4 = I 30 4 ∧ I' 30 5 = v ∧ I' 30 6 = g ∧ I' 30 7 = o
theorem jb_FH {I' : gI} {N : Nat} {w sl v g o : Int32} (h : FH I N w sl) (hj : Jb I I' v g o) : FH I' N w sl := by
  obtain ⟨h1, h2, h3, h4, h5⟩ := h
  obtain ⟨j1, j3, j4, j5⟩ := hj
  unfold FH
  rw [j1 31 (by decide) (by decide) (by decide), j1 32 (by decide) (by decide) (by decide), j3, j4]
  exact ⟨h1, h2, h3, h4, h5⟩
theorem jb_w {I1 I2 : gI} {v g o : Int32} (h : Jb I I1 v g o) (hj : Jw I1 I2) : Jb I I2 v g o := by
  obtain ⟨j1, j3, j4, j5, j6, j7⟩ := h
  have e := hj 30 (by decide) (by decide)
  unfold Jb
  rw [e]
  exact ⟨fun a q1 q2 q3 => (hj a q1 q2).trans (j1 a q1 q2 q3), j3, j4, j5, j6, j7⟩
theorem jb_set {I1 : gI} {v g o v' g' o' : Int32} (h : Jb I I1 v g o) : Jb I (va_up I1 30 (va_up (va_up (va_up (I1 30) 5 v') 6 g') 7 o')) v' g' o' := by
  obtain ⟨j1, j3, j4, j5, j6, j7⟩ := h
  unfold Jb
  simp (decide := true) only [up_eq, up_ne, j3, j4, and_true]
  exact fun a q1 q2 q3 => by rw [up_ne q3]; exact j1 a q1 q2 q3
/-- one exchange is tried -/
def chS (v : Int32) (l o : Nat) (st : Int32 × Int32 × Int32 × Int32) : Int32 × Int32 × Int32 × Int32 := if ¬ v = -1 ∧ (st.1 = -1 ∨ ¬ st.1 ≤ v) then (v, v, nI l, nI o) else st
def chI (f : Nat → Nat → Int32) (l : Nat) (st : Int32 × Int32 × Int32 × Int32) : Nat → Int32 × Int32 × Int32 × Int32
  | 0 => st
  | i + 1 => chS (f l (l + 1 + i)) l (l + 1 + i) (chI f l st i)
def chO (f : Nat → Nat → Int32) (N : Nat) (st : Int32 × Int32 × Int32 × Int32) : Nat → Int32 × Int32 × Int32 × Int32
  | 0 => st
  | l + 1 => chI f l (chO f N st l) (N - (l + 1))
/-- the time between, had these two changed places -/
def chF (h s k d : Nat → Int32) (w sl : Int32) (N c a b l o : Nat) : Int32 := apF h s (sw k l o) (sw d l o) w sl N c a b
theorem X1_seekChange (hZ : St Z) {w sl : Int32} {N c a b : Nat} (hF : FH I N w sl) (hc : c < N) (ha : a < N) (hb : b < N) : ∃ I', g_at 18 0 [.ref 30, .int (nI c), .int (nI a), .int (nI b), .null, .null, .null, .null] [] Z I J = some (none, Z, I', J) ∧ Jb I I' (chO (chF (I 32) (I 33) (I 34) (I 35) w sl N c a b) N (apF (I 32) (I 33) (I 34) (I 35) w sl N c a b, -1, -1, -1) N).2.1 (chO (chF (I 32) (I 33) (I 34) (I 35) w sl N c a b) N (apF (I 32) (I 33) (I 34) (I 35) w sl N c a b, -1, -1, -1) N).2.2.1 (chO (chF (I 32) (I 33) (I 34) (I 35) w sl N c a b) N (apF (I 32) (I 33) (I 34) (I 35) w sl N c a b, -1, -1, -1) N).2.2.2 := by
  have hN := hF.2.1
  have step : ∀ (st : Int32 × Int32 × Int32 × Int32) (l o : Nat) (v7 : Value) (I1 : gI), l < N → o < N → Jb I I1 st.2.1 st.2.2.1 st.2.2.2 → ∃ b' : gI × Value, Jb I b'.1 (chS (chF (I 32) (I 33) (I 34) (I 35) w sl N c a b l o) l o st).2.1 (chS (chF (I 32) (I 33) (I 34) (I 35) w sl N c a b l o) l o st).2.2.1 (chS (chF (I 32) (I 33) (I 34) (I 35) w sl N c a b l o) l o st).2.2.2 ∧ g_at 18 34 [.ref 30, .int (nI c), .int (nI a), .int (nI b), .int st.1, .int (nI l), .int (nI o), v7] [] Z I1 J = g_at 18 34 [.ref 30, .int (nI c), .int (nI a), .int (nI b), .int (chS (chF (I 32) (I 33) (I 34) (I 35) w sl N c a b l o) l o st).1, .int (nI l), .int (nI (o + 1)), b'.2] [] Z b'.1 J := by
    intro st l o v7 I1 hl ho hj
    have hF1 := jb_FH hF hj
    have hF2 : FH (va_up (va_up I1 34 (sw (I1 34) l o)) 35 (sw (I1 35) l o)) N w sl := by
      unfold FH at hF1 ⊢
      simp (decide := true) only [up_ne]
      exact hF1
    obtain ⟨I3, r1, r2⟩ := X1_minutesBetween (J := J) hZ hF2 hc ha hb
    have e32 := hj.1 32 (by decide) (by decide) (by decide)
    have e33 := hj.1 33 (by decide) (by decide) (by decide)
    have e34 := hj.1 34 (by decide) (by decide) (by decide)
    have e35 := hj.1 35 (by decide) (by decide) (by decide)
    simp (decide := true) only [up_ne, up_eq, e32, e33, e34, e35] at r1 r2
    have x34 : I3 34 = sw (I 34) l o := by rw [r2 34 (by decide) (by decide)]; simp (decide := true) only [up_ne, up_eq]
    have x35 : I3 35 = sw (I 35) l o := by rw [r2 35 (by decide) (by decide)]; simp (decide := true) only [up_eq]
    have hj4 : Jb I (va_up (va_up I3 34 (I 34)) 35 (I 35)) st.2.1 st.2.2.1 st.2.2.2 := by
      obtain ⟨j1, j3, j4, j5, j6, j7⟩ := hj
      have y : I3 30 = I1 30 := by rw [r2 30 (by decide) (by decide)]; simp (decide := true) only [up_ne]
      unfold Jb
      simp (decide := true) only [up_ne, y, j3, j4, j5, j6, j7, and_self, and_true]
      intro q q1 q2 q3
      by_cases z1 : q = 35
      · subst z1; rw [up_eq]
      · rw [up_ne z1]
        by_cases z2 : q = 34
        · subst z2; rw [up_eq]
        · rw [up_ne z2, r2 q q1 q2, up_ne z1, up_ne z2]
          exact j1 q q1 q2 q3
    have hn : I1 31 4 = nI N := hF1.1
    have f3 : ¬ nI N ≤ nI o := nI_ge ho (by omega)
    rw [q_18_34]
    have r1' : g_at 16 0 [.ref 30, .int (nI c), .int (nI a), .int (nI b), .null, .null] [] Z (va_up (va_up I1 34 (sw (I 34) l o)) 35 (sw (I 35) l o)) J = some (some (.int (chF (I 32) (I 33) (I 34) (I 35) w sl N c a b l o)), Z, I3, J) := r1
    generalize chF (I 32) (I 33) (I 34) (I 35) w sl N c a b l o = v at r1'
    have hsw := fun (I' : gI) => X0_swapMonks (I := I') (J := J) hZ (a := l) (b := o) (by omega) (by omega)
    have hl10 : l < 10 := by omega
    have ho10 : o < 10 := by omega
    by_cases q1 : v = -1
    · refine ⟨(va_up (va_up I3 34 (I 34)) 35 (I 35), .int v), ?_, ?_⟩
      · rw [chS, if_neg (fun q => q.1 q1)]; exact hj4
      · rw [chS, if_neg (fun q => q.1 q1)]
        simp (decide := true) only [gN1_int, gN1_ref, gN1_null, gN1_long, gTg8_8, gTg8_14, gTg9_9, gTg9_13, gTgA_8, gTgA_9, gTgA_10, gTgA_11, gTgA_13, gTgA_14, gB01_0, gB01_1, gB01_b, List.cons_append, List.nil_append, Option.toList_some, Option.toList_none, Option.bind_some, ↓reduceIte, eq_self, not_true_eq_false, not_false_eq_true, b2i_0, b2i_1, up_eq, up_ne, up_up, up_sort, up_self, fl_at, nI_s, q_18_0, q_18_1, q_18_4, q_18_5, q_18_6, q_18_7, q_18_8, q_18_11, q_18_13, q_18_14, q_18_16, q_18_18, q_18_19, q_18_22, q_18_25, q_18_28, q_18_30, q_18_31, q_18_32, q_18_36, q_18_37, q_18_40, q_18_43, q_18_46, q_18_47, q_18_50, q_18_52, q_18_54, q_18_57, q_18_58, q_18_59, q_18_60, q_18_61, q_18_64, q_18_66, q_18_67, q_18_70, q_18_72, q_18_74, q_18_77, q_18_79, q_18_80, q_18_83, q_18_85, q_18_86, q_18_89, q_18_91, q_18_93, q_18_96, q_18_98, q_18_100, q_18_101, q_18_103, q_18_105, q_18_107, q_18_110, q_18_113, q_18_116, q_18_119, q_18_122, zk_30, zk_31, zs_31_0, zr_31_0, zs_31_1, zr_31_1, zs_31_2, zr_31_2, zs_31_3, zr_31_3, zs_30_0, zr_30_0, zs_30_1, zr_30_1, zs_30_2, zr_30_2, hZ, hn, f3, hsw, e34, e35, r1', x34, x35, sw_sw, q1]
    · by_cases q2 : st.1 = -1
      · have hcS : chS v l o st = (v, v, nI l, nI o) := by rw [chS, if_pos ⟨q1, Or.inl q2⟩]
        refine ⟨(va_up (va_up (va_up I3 34 (I 34)) 35 (I 35)) 30 (va_up (va_up (va_up ((va_up (va_up I3 34 (I 34)) 35 (I 35)) 30) 5 v) 6 (nI l)) 7 (nI o)), .int v), ?_, ?_⟩
        · rw [hcS]; exact jb_set hj4
        · rw [hcS]
          simp (decide := true) only [gN1_int, gN1_ref, gN1_null, gN1_long, gTg8_8, gTg8_14, gTg9_9, gTg9_13, gTgA_8, gTgA_9, gTgA_10, gTgA_11, gTgA_13, gTgA_14, gB01_0, gB01_1, gB01_b, List.cons_append, List.nil_append, Option.toList_some, Option.toList_none, Option.bind_some, ↓reduceIte, eq_self, not_true_eq_false, not_false_eq_true, b2i_0, b2i_1, up_eq, up_ne, up_up, up_sort, up_self, fl_at, nI_s, q_18_0, q_18_1, q_18_4, q_18_5, q_18_6, q_18_7, q_18_8, q_18_11, q_18_13, q_18_14, q_18_16, q_18_18, q_18_19, q_18_22, q_18_25, q_18_28, q_18_30, q_18_31, q_18_32, q_18_36, q_18_37, q_18_40, q_18_43, q_18_46, q_18_47, q_18_50, q_18_52, q_18_54, q_18_57, q_18_58, q_18_59, q_18_60, q_18_61, q_18_64, q_18_66, q_18_67, q_18_70, q_18_72, q_18_74, q_18_77, q_18_79, q_18_80, q_18_83, q_18_85, q_18_86, q_18_89, q_18_91, q_18_93, q_18_96, q_18_98, q_18_100, q_18_101, q_18_103, q_18_105, q_18_107, q_18_110, q_18_113, q_18_116, q_18_119, q_18_122, zk_30, zk_31, zs_31_0, zr_31_0, zs_31_1, zr_31_1, zs_31_2, zr_31_2, zs_31_3, zr_31_3, zs_30_0, zr_30_0, zs_30_1, zr_30_1, zs_30_2, zr_30_2, hZ, hn, f3, hsw, e34, e35, r1', x34, x35, sw_sw, q1, q2, X1_setBest hZ]
      · by_cases q3 : st.1 ≤ v
        · have hcS : chS v l o st = st := by rw [chS, if_neg (fun q => q.2.elim q2 (fun z => z q3))]
          refine ⟨(va_up (va_up I3 34 (I 34)) 35 (I 35), .int v), ?_, ?_⟩
          · rw [hcS]; exact hj4
          · rw [hcS]
            simp (decide := true) only [gN1_int, gN1_ref, gN1_null, gN1_long, gTg8_8, gTg8_14, gTg9_9, gTg9_13, gTgA_8, gTgA_9, gTgA_10, gTgA_11, gTgA_13, gTgA_14, gB01_0, gB01_1, gB01_b, List.cons_append, List.nil_append, Option.toList_some, Option.toList_none, Option.bind_some, ↓reduceIte, eq_self, not_true_eq_false, not_false_eq_true, b2i_0, b2i_1, up_eq, up_ne, up_up, up_sort, up_self, fl_at, nI_s, q_18_0, q_18_1, q_18_4, q_18_5, q_18_6, q_18_7, q_18_8, q_18_11, q_18_13, q_18_14, q_18_16, q_18_18, q_18_19, q_18_22, q_18_25, q_18_28, q_18_30, q_18_31, q_18_32, q_18_36, q_18_37, q_18_40, q_18_43, q_18_46, q_18_47, q_18_50, q_18_52, q_18_54, q_18_57, q_18_58, q_18_59, q_18_60, q_18_61, q_18_64, q_18_66, q_18_67, q_18_70, q_18_72, q_18_74, q_18_77, q_18_79, q_18_80, q_18_83, q_18_85, q_18_86, q_18_89, q_18_91, q_18_93, q_18_96, q_18_98, q_18_100, q_18_101, q_18_103, q_18_105, q_18_107, q_18_110, q_18_113, q_18_116, q_18_119, q_18_122, zk_30, zk_31, zs_31_0, zr_31_0, zs_31_1, zr_31_1, zs_31_2, zr_31_2, zs_31_3, zr_31_3, zs_30_0, zr_30_0, zs_30_1, zr_30_1, zs_30_2, zr_30_2, hZ, hn, f3, hsw, e34, e35, r1', x34, x35, sw_sw, q1, q2, q3]
        · have hcS : chS v l o st = (v, v, nI l, nI o) := by rw [chS, if_pos ⟨q1, Or.inr q3⟩]
          refine ⟨(va_up (va_up (va_up I3 34 (I 34)) 35 (I 35)) 30 (va_up (va_up (va_up ((va_up (va_up I3 34 (I 34)) 35 (I 35)) 30) 5 v) 6 (nI l)) 7 (nI o)), .int v), ?_, ?_⟩
          · rw [hcS]; exact jb_set hj4
          · rw [hcS]
            simp (decide := true) only [gN1_int, gN1_ref, gN1_null, gN1_long, gTg8_8, gTg8_14, gTg9_9, gTg9_13, gTgA_8, gTgA_9, gTgA_10, gTgA_11, gTgA_13, gTgA_14, gB01_0, gB01_1, gB01_b, List.cons_append, List.nil_append, Option.toList_some, Option.toList_none, Option.bind_some, ↓reduceIte, eq_self, not_true_eq_false, not_false_eq_true, b2i_0, b2i_1, up_eq, up_ne, up_up, up_sort, up_self, fl_at, nI_s, q_18_0, q_18_1, q_18_4, q_18_5, q_18_6, q_18_7, q_18_8, q_18_11, q_18_13, q_18_14, q_18_16, q_18_18, q_18_19, q_18_22, q_18_25, q_18_28, q_18_30, q_18_31, q_18_32, q_18_36, q_18_37, q_18_40, q_18_43, q_18_46, q_18_47, q_18_50, q_18_52, q_18_54, q_18_57, q_18_58, q_18_59, q_18_60, q_18_61, q_18_64, q_18_66, q_18_67, q_18_70, q_18_72, q_18_74, q_18_77, q_18_79, q_18_80, q_18_83, q_18_85, q_18_86, q_18_89, q_18_91, q_18_93, q_18_96, q_18_98, q_18_100, q_18_101, q_18_103, q_18_105, q_18_107, q_18_110, q_18_113, q_18_116, q_18_119, q_18_122, zk_30, zk_31, zs_31_0, zr_31_0, zs_31_1, zr_31_1, zs_31_2, zr_31_2, zs_31_3, zr_31_3, zs_30_0, zr_30_0, zs_30_1, zr_30_1, zs_30_2, zr_30_2, hZ, hn, f3, hsw, e34, e35, r1', x34, x35, sw_sw, q1, q2, q3, X1_setBest hZ]
  obtain ⟨I0, r1, r2⟩ := X1_minutesBetween (I := va_up I 30 (va_up (va_up (va_up (I 30) 5 (-1)) 6 (-1)) 7 (-1))) (J := J) hZ (N := N) (w := w) (sl := sl) (by
    unfold FH at hF ⊢
    simp (decide := true) only [up_ne, up_eq]
    exact hF) hc ha hb
  simp (decide := true) only [up_ne] at r1
  have hj0 : Jb I I0 (-1) (-1) (-1) := jb_w (jb_set (v := I 30 5) (g := I 30 6) (o := I 30 7) ⟨fun _ _ _ _ => rfl, rfl, rfl, rfl, rfl, rfl⟩) r2
  obtain ⟨b', hj, e⟩ := loop_ink (fun l (x : gI × Value × Value) => g_at 18 16 [.ref 30, .int (nI c), .int (nI a), .int (nI b), .int (chO (chF (I 32) (I 33) (I 34) (I 35) w sl N c a b) N (apF (I 32) (I 33) (I 34) (I 35) w sl N c a b, -1, -1, -1) l).1, .int (nI l), x.2.1, x.2.2] [] Z x.1 J) (fun l x => Jb I x.1 (chO (chF (I 32) (I 33) (I 34) (I 35) w sl N c a b) N (apF (I 32) (I 33) (I 34) (I 35) w sl N c a b, -1, -1, -1) l).2.1 (chO (chF (I 32) (I 33) (I 34) (I 35) w sl N c a b) N (apF (I 32) (I 33) (I 34) (I 35) w sl N c a b, -1, -1, -1) l).2.2.1 (chO (chF (I 32) (I 33) (I 34) (I 35) w sl N c a b) N (apF (I 32) (I 33) (I 34) (I 35) w sl N c a b, -1, -1, -1) l).2.2.2) (n := N) (fun l hl x hx => by
    obtain ⟨I1, u6, u7⟩ := x
    try dsimp only at hx ⊢
    rw [show chO (chF (I 32) (I 33) (I 34) (I 35) w sl N c a b) N (apF (I 32) (I 33) (I 34) (I 35) w sl N c a b, -1, -1, -1) (l + 1) = chI (chF (I 32) (I 33) (I 34) (I 35) w sl N c a b) l (chO (chF (I 32) (I 33) (I 34) (I 35) w sl N c a b) N (apF (I 32) (I 33) (I 34) (I 35) w sl N c a b, -1, -1, -1) l) (N - (l + 1)) from by rw [chO]]
    generalize chO (chF (I 32) (I 33) (I 34) (I 35) w sl N c a b) N (apF (I 32) (I 33) (I 34) (I 35) w sl N c a b, -1, -1, -1) l = st at hx ⊢
    obtain ⟨b2, hj2, e2⟩ := loop_ink (fun i (x : gI × Value) => g_at 18 34 [.ref 30, .int (nI c), .int (nI a), .int (nI b), .int (chI (chF (I 32) (I 33) (I 34) (I 35) w sl N c a b) l st i).1, .int (nI l), .int (nI (l + 1 + i)), x.2] [] Z x.1 J) (fun i x => Jb I x.1 (chI (chF (I 32) (I 33) (I 34) (I 35) w sl N c a b) l st i).2.1 (chI (chF (I 32) (I 33) (I 34) (I 35) w sl N c a b) l st i).2.2.1 (chI (chF (I 32) (I 33) (I 34) (I 35) w sl N c a b) l st i).2.2.2) (n := N - (l + 1)) (fun i hi x hx => step _ l (l + 1 + i) x.2 x.1 hl (by omega) hx) (I1, u7) hx
    refine ⟨(b2.1, .int (nI N), b2.2), hj2, ?_⟩
    have hn : I1 31 4 = nI N := (jb_FH hF hx).1
    have hn2 : b2.1 31 4 = nI N := (jb_FH hF hj2).1
    have f3 : ¬ nI N ≤ nI l := nI_ge hl (by omega)
    simp only [chI, Nat.add_zero] at e2
    rw [show l + 1 + (N - (l + 1)) = N from by omega] at e2
    rw [q_18_16]
    simp (decide := true) only [gN1_int, gN1_ref, gN1_null, gN1_long, gTg8_8, gTg8_14, gTg9_9, gTg9_13, gTgA_8, gTgA_9, gTgA_10, gTgA_11, gTgA_13, gTgA_14, gB01_0, gB01_1, gB01_b, List.cons_append, List.nil_append, Option.toList_some, Option.toList_none, Option.bind_some, ↓reduceIte, eq_self, not_true_eq_false, not_false_eq_true, b2i_0, b2i_1, up_eq, up_ne, up_up, up_sort, up_self, fl_at, nI_s, q_18_0, q_18_1, q_18_4, q_18_5, q_18_6, q_18_7, q_18_8, q_18_11, q_18_13, q_18_14, q_18_18, q_18_19, q_18_22, q_18_25, q_18_28, q_18_30, q_18_31, q_18_32, q_18_36, q_18_37, q_18_40, q_18_43, q_18_46, q_18_47, q_18_50, q_18_52, q_18_54, q_18_57, q_18_58, q_18_59, q_18_60, q_18_61, q_18_64, q_18_66, q_18_67, q_18_70, q_18_72, q_18_74, q_18_77, q_18_79, q_18_80, q_18_83, q_18_85, q_18_86, q_18_89, q_18_91, q_18_93, q_18_96, q_18_98, q_18_100, q_18_101, q_18_103, q_18_105, q_18_107, q_18_110, q_18_113, q_18_116, q_18_119, q_18_122, zk_30, zk_31, zs_31_0, zr_31_0, zs_31_1, zr_31_1, zs_31_2, zr_31_2, zs_31_3, zr_31_3, zs_30_0, zr_30_0, zs_30_1, zr_30_1, zs_30_2, zr_30_2, hZ, hn, f3]
    rw [e2, q_18_34]
    simp (decide := true) only [gN1_int, gN1_ref, gN1_null, gN1_long, gTg8_8, gTg8_14, gTg9_9, gTg9_13, gTgA_8, gTgA_9, gTgA_10, gTgA_11, gTgA_13, gTgA_14, gB01_0, gB01_1, gB01_b, List.cons_append, List.nil_append, Option.toList_some, Option.toList_none, Option.bind_some, ↓reduceIte, eq_self, not_true_eq_false, not_false_eq_true, b2i_0, b2i_1, up_eq, up_ne, up_up, up_sort, up_self, fl_at, nI_s, q_18_0, q_18_1, q_18_4, q_18_5, q_18_6, q_18_7, q_18_8, q_18_11, q_18_13, q_18_14, q_18_18, q_18_19, q_18_22, q_18_25, q_18_28, q_18_30, q_18_31, q_18_32, q_18_36, q_18_37, q_18_40, q_18_43, q_18_46, q_18_47, q_18_50, q_18_52, q_18_54, q_18_57, q_18_58, q_18_59, q_18_60, q_18_61, q_18_64, q_18_66, q_18_67, q_18_70, q_18_72, q_18_74, q_18_77, q_18_79, q_18_80, q_18_83, q_18_85, q_18_86, q_18_89, q_18_91, q_18_93, q_18_96, q_18_98, q_18_100, q_18_101, q_18_103, q_18_105, q_18_107, q_18_110, q_18_113, q_18_116, q_18_119, q_18_122, zk_30, zk_31, zs_31_0, zr_31_0, zs_31_1, zr_31_1, zs_31_2, zr_31_2, zs_31_3, zr_31_3, zs_30_0, zr_30_0, zs_30_1, zr_30_1, zs_30_2, zr_30_2, hZ, hn2, Int32.le_refl]) (I0, .null, .null) hj0
  refine ⟨b'.1, ?_, hj⟩
  have hn : b'.1 31 4 = nI N := (jb_FH hF hj).1
  simp only [chO, nI_0] at e
  simp (decide := true) only [gN1_int, gN1_ref, gN1_null, gN1_long, gTg8_8, gTg8_14, gTg9_9, gTg9_13, gTgA_8, gTgA_9, gTgA_10, gTgA_11, gTgA_13, gTgA_14, gB01_0, gB01_1, gB01_b, List.cons_append, List.nil_append, Option.toList_some, Option.toList_none, Option.bind_some, ↓reduceIte, eq_self, not_true_eq_false, not_false_eq_true, b2i_0, b2i_1, up_eq, up_ne, up_up, up_sort, up_self, fl_at, nI_s, q_18_0, q_18_1, q_18_4, q_18_5, q_18_6, q_18_7, q_18_8, q_18_11, q_18_13, q_18_14, zk_30, zs_30_0, zr_30_0, zs_30_1, zr_30_1, zs_30_2, zr_30_2, hZ, X1_forgetBest hZ, r1]
  rw [e, q_18_16]
  simp (decide := true) only [gN1_int, gN1_ref, gN1_null, gN1_long, gTg8_8, gTg8_14, gTg9_9, gTg9_13, gTgA_8, gTgA_9, gTgA_10, gTgA_11, gTgA_13, gTgA_14, gB01_0, gB01_1, gB01_b, List.cons_append, List.nil_append, Option.toList_some, Option.toList_none, Option.bind_some, ↓reduceIte, eq_self, not_true_eq_false, not_false_eq_true, b2i_0, b2i_1, up_eq, up_ne, up_up, up_sort, up_self, fl_at, nI_s, q_18_18, q_18_19, q_18_22, q_18_25, q_18_122, zk_30, zk_31, zs_31_0, zr_31_0, zs_31_1, zr_31_1, zs_31_2, zr_31_2, zs_31_3, zr_31_3, zs_30_0, zr_30_0, zs_30_1, zr_30_1, zs_30_2, zr_30_2, hZ, hn, Int32.le_refl]
end
