/-! the law begins: the states agree -/
section
theorem kT_ok : ∀ e ∈ kdT, e.1 < 53 ∧ kT e.1 = e.2 := by decide
theorem RF_ok : ∀ e ∈ rfT, RF_51 e.1 e.2.1 = some e.2.2 := by decide
def kB (n : Nat) : Nat → Nat × Nat := fun k => if k < 1000 then (99, 0) else g_sK n k
theorem kB_hi {n m a : Nat} (h : 53 ≤ a) : gKd (53, m, fl kT (kB n) 53, RF_51) a = kB n a := by
  rw [gKd_t, fl_ge (by omega)]
theorem mk_St {n m : Nat} : St (53, m, fl kT (kB n) 53, RF_51) := by
  refine ⟨fun e he => ?_, fun e he => RF_ok e he, ?_⟩
  · rw [gKd_t, fl_lt (kT_ok e he).1]
    exact (kT_ok e he).2
  · refine ⟨?_, ?_⟩
    · rw [kB_hi (by omega)]; rfl
    · simp only [kB_hi (show 53 ≤ 1010 by omega), kB_hi (show 53 ≤ 1011 by omega), kB_hi (show 53 ≤ 1012 by omega), kB_hi (show 53 ≤ 1013 by omega), kB_hi (show 53 ≤ 1014 by omega), kB_hi (show 53 ≤ 1015 by omega), kB_hi (show 53 ≤ 1016 by omega), kB_hi (show 53 ≤ 1017 by omega), kB_hi (show 53 ≤ 1018 by omega), kB_hi (show 53 ≤ 1019 by omega), kB_hi (show 53 ≤ 1030 by omega), kB_hi (show 53 ≤ 1031 by omega), kB_hi (show 53 ≤ 1032 by omega), kB_hi (show 53 ≤ 1033 by omega), kB_hi (show 53 ≤ 1034 by omega), kB_hi (show 53 ≤ 1035 by omega), kB_hi (show 53 ≤ 1036 by omega), kB_hi (show 53 ≤ 1037 by omega), kB_hi (show 53 ≤ 1038 by omega), kB_hi (show 53 ≤ 1039 by omega)]
      exact ⟨rfl, rfl, rfl, rfl, rfl, rfl, rfl, rfl, rfl, rfl, rfl, rfl, rfl, rfl, rfl, rfl, rfl, rfl, rfl, rfl⟩
theorem rel_0 {I : gI} {J : gJ} (a1 : I 1 = (fun _ => 0)) (a2 : I 2 = (fun _ => 0)) (a3 : I 3 4 = 4) (a35 : I 3 5 = 0) (a4 : I 4 = fl (fun _ => -1) (fun _ => 0) 10) (a5 : I 5 = (fun _ => 0)) (a6 : I 6 = (fun _ => 0)) (a7 : I 7 = fl (fun _ => 1) (fun _ => 0) 10) (a13 : I 13 = (fun _ => 0)) (a15 : I 15 = (fun _ => 0)) (a16 : I 16 = (fun _ => 0)) (a21 : I 21 = (fun _ => 0)) (a25 : I 25 = (fun _ => 0)) (a26 : I 26 = (fun _ => 0)) (a27 : I 27 = (fun _ => 0)) (j14 : J 14 = (fun _ => 0)) (a38 : I 38 = va_up (va_up (fun _ => 0) 0 4) 27 (-1)) (a39 : I 39 = fl (fun _ => -1) (fun _ => 0) 10) (a40 : I 40 = (fun _ => 0)) (a41 : I 41 = (fun _ => 0)) (a42 : I 42 = fl (fun _ => 1) (fun _ => 0) 10) (a43 : I 43 = (fun _ => 0)) (a46 : I 46 = (fun _ => 0)) (a48 : I 48 = (fun _ => 0)) (j45 : J 45 = (fun _ => 0)) : Rel I J := by
  refine ⟨4, 0, 0, 0, ?_, ?_, ?_, ?_, ?_, ?_⟩
  · unfold RH
    rw [a3, a35, a38, a39, a40, a41, a42, a4, a5, a6, a7]
    refine ⟨by omega, by omega, rfl, rfl, rfl, rfl, rfl, rfl, rfl, fun j hj => Or.inl (fl_lt hj), fun j _ => Or.inl rfl, fun j hj => ⟨1, by omega, fl_lt hj⟩, rfl⟩
  · unfold RT
    rw [a1, a2, a38, a43]
    exact ⟨by omega, rfl, rfl, rfl⟩
  · unfold RM
    rw [a13, a38, j45, j14, a46, a15, a16, a6]
    refine ⟨rfl, rfl, rfl, rfl, rfl, ?_, fun j _ => ⟨Or.inl rfl, fun _ => rfl⟩, fun j _ => ⟨⟨0, by decide, rfl⟩, fun _ => rfl⟩, fun j _ _ => rfl, by omega⟩
    decide
  · unfold RK0
    rw [a26, a48, a21]
    exact ⟨gB01_0, rfl, fun j _ => gB01_0, fun z => absurd rfl z⟩
  · unfold RK1
    rw [a26, a48, a25]
    exact ⟨gB01_0, rfl, fun j _ => gB01_0, fun z => absurd rfl z⟩
  · unfold RS
    rw [a27, a38]
    exact ⟨by omega, rfl, rfl, fun i hi => absurd hi (by omega)⟩
theorem lw_start (n : Nat) (xs : Nat → Int32) : ∃ m I J, g_at 142 0 [.ref 1001, .null, .null, .null] [] (gZs n) (gIs xs) gJs = g_at 142 18 [.ref 1001, .ref 0, .ref 38, .int (nI 0)] [] (53, m, fl kT (kB n) 53, RF_51) I J ∧ m ≤ 10000 ∧ I 1001 = xs ∧ KO I ∧ TX I ∧ Rel I J := by
  have hz : gZs n = (0, 0, fl kT (kB n) 0, RF_0) := by rw [fl_0]; rfl
  obtain ⟨m1, I1, J1, e1, hm1, f1⟩ := mk_A (I := va_up (gIs xs) 0 (fun _ => 0)) (J := va_up gJs 0 (fun _ => 0)) (g := kB n) (m := 8)
  obtain ⟨m2, I2, J2, e2, hm2, p1, p2, p3, p4, p5⟩ := mk_B1 (I := va_up I1 38 (fun _ => 0)) (J := va_up J1 38 (fun _ => 0)) (g := kB n) (m := m1 + 30) up_eq
  have hpl := X7_plain (I := I2) (J := J2) (mk_St (n := n) (m := m2)) (n := 4)
  have k38 : (gKd (53, m2, fl kT (kB n) 53, RF_51) 38).1 = 7 := by rw [gKd_t, fl_lt (by omega)]; decide
  obtain ⟨q0, q1, q2, q3, q35, q4, q5, q6, q7, q13, q15, q16, q21, q25, q26, q27, qj⟩ := f1
  have hlo : ∀ a, a < 38 → (va_up (va_up (va_up (va_up (va_up I2 38 (va_up (va_up (I2 38) 0 4) 6 0)) 39 (fl (fun _ => -1) (I2 39) 10)) 40 (fl (fun _ => 0) (I2 40) 10)) 41 (fl (fun _ => 0) (I2 41) 10)) 42 (fl (fun _ => 1) (I2 42) 10)) a = I1 a := fun a h => by rw [up_ne (by omega), up_ne (by omega), up_ne (by omega), up_ne (by omega), up_ne (by omega), p1 a (Or.inl h), up_ne (by omega)]
  have hhi : ∀ a, 1000 ≤ a → (va_up (va_up (va_up (va_up (va_up I2 38 (va_up (va_up (I2 38) 0 4) 6 0)) 39 (fl (fun _ => -1) (I2 39) 10)) 40 (fl (fun _ => 0) (I2 40) 10)) 41 (fl (fun _ => 0) (I2 41) 10)) 42 (fl (fun _ => 1) (I2 42) 10)) a = gIs xs a := fun a h => by rw [up_ne (by omega), up_ne (by omega), up_ne (by omega), up_ne (by omega), up_ne (by omega), p1 a (Or.inr (by omega)), up_ne (by omega), q0 a (by omega), up_ne (by omega)]
  have hmid : ∀ a, 43 ≤ a → a < 53 → (va_up (va_up (va_up (va_up (va_up I2 38 (va_up (va_up (I2 38) 0 4) 6 0)) 39 (fl (fun _ => -1) (I2 39) 10)) 40 (fl (fun _ => 0) (I2 40) 10)) 41 (fl (fun _ => 0) (I2 41) 10)) 42 (fl (fun _ => 1) (I2 42) 10)) a = (fun _ => 0) := fun a h1 h2 => by rw [up_ne (by omega), up_ne (by omega), up_ne (by omega), up_ne (by omega), up_ne (by omega)]; exact p4 a (by omega) h2
  have h38 : (va_up (va_up (va_up (va_up (va_up I2 38 (va_up (va_up (I2 38) 0 4) 6 0)) 39 (fl (fun _ => -1) (I2 39) 10)) 40 (fl (fun _ => 0) (I2 40) 10)) 41 (fl (fun _ => 0) (I2 41) 10)) 42 (fl (fun _ => 1) (I2 42) 10)) 38 = va_up (va_up (fun _ => 0) 0 4) 27 (-1) := by
    simp (decide := true) only [up_eq, up_ne]
    rw [p3]
    funext j
    unfold va_up
    by_cases z1 : j = 6
    · subst z1; rfl
    · by_cases z2 : j = 0
      · subst z2; rfl
      · simp only [z1, z2, if_false]
  have h39 : (va_up (va_up (va_up (va_up (va_up I2 38 (va_up (va_up (I2 38) 0 4) 6 0)) 39 (fl (fun _ => -1) (I2 39) 10)) 40 (fl (fun _ => 0) (I2 40) 10)) 41 (fl (fun _ => 0) (I2 41) 10)) 42 (fl (fun _ => 1) (I2 42) 10)) 39 = fl (fun _ => -1) (fun _ => 0) 10 := by
    simp (decide := true) only [up_eq, up_ne]
    rw [p4 39 (by omega) (by omega)]
  have h40 : (va_up (va_up (va_up (va_up (va_up I2 38 (va_up (va_up (I2 38) 0 4) 6 0)) 39 (fl (fun _ => -1) (I2 39) 10)) 40 (fl (fun _ => 0) (I2 40) 10)) 41 (fl (fun _ => 0) (I2 41) 10)) 42 (fl (fun _ => 1) (I2 42) 10)) 40 = (fun _ => 0) := by
    simp (decide := true) only [up_eq, up_ne]
    rw [p4 40 (by omega) (by omega), fl_self]
  have h41 : (va_up (va_up (va_up (va_up (va_up I2 38 (va_up (va_up (I2 38) 0 4) 6 0)) 39 (fl (fun _ => -1) (I2 39) 10)) 40 (fl (fun _ => 0) (I2 40) 10)) 41 (fl (fun _ => 0) (I2 41) 10)) 42 (fl (fun _ => 1) (I2 42) 10)) 41 = (fun _ => 0) := by
    simp (decide := true) only [up_eq, up_ne]
    rw [p4 41 (by omega) (by omega), fl_self]
  have h42 : (va_up (va_up (va_up (va_up (va_up I2 38 (va_up (va_up (I2 38) 0 4) 6 0)) 39 (fl (fun _ => -1) (I2 39) 10)) 40 (fl (fun _ => 0) (I2 40) 10)) 41 (fl (fun _ => 0) (I2 41) 10)) 42 (fl (fun _ => 1) (I2 42) 10)) 42 = fl (fun _ => 1) (fun _ => 0) 10 := by
    simp (decide := true) only [up_eq]
    rw [p4 42 (by omega) (by omega)]
  have hj14 : J2 14 = (fun _ => 0) := by rw [p2 14 (by omega), up_ne (by decide)]; exact qj
  refine ⟨m2, va_up (va_up (va_up (va_up (va_up I2 38 (va_up (va_up (I2 38) 0 4) 6 0)) 39 (fl (fun _ => -1) (I2 39) 10)) 40 (fl (fun _ => 0) (I2 40) 10)) 41 (fl (fun _ => 0) (I2 41) 10)) 42 (fl (fun _ => 1) (I2 42) 10), J2, ?_, by omega, ?_, ?_, ?_, ?_⟩
  · rw [hz, nI_0]
    simp (decide := true) only [gN1_int, gN1_ref, gN1_null, gN1_long, gTg8_8, gTg8_14, gTg9_9, gTg9_13, gTgA_8, gTgA_9, gTgA_10, gTgA_11, gTgA_13, gTgA_14, gB01_0, gB01_1, gB01_b, List.cons_append, List.nil_append, Option.toList_some, Option.toList_none, Option.bind_some, ↓reduceIte, eq_self, not_true_eq_false, not_false_eq_true, b2i_0, b2i_1, up_eq, up_ne, up_up, up_sort, up_self, fl_at, nI_s, q_142_0, q_142_3, q_142_4, q_142_7, Nat.reduceAdd, kn_0, rn_0, e1]
    simp (decide := true) only [gN1_int, gN1_ref, gN1_null, gN1_long, gTg8_8, gTg8_14, gTg9_9, gTg9_13, gTgA_8, gTgA_9, gTgA_10, gTgA_11, gTgA_13, gTgA_14, gB01_0, gB01_1, gB01_b, List.cons_append, List.nil_append, Option.toList_some, Option.toList_none, Option.bind_some, ↓reduceIte, eq_self, not_true_eq_false, not_false_eq_true, b2i_0, b2i_1, up_eq, up_ne, up_up, up_sort, up_self, fl_at, nI_s, q_142_8, q_142_11, q_142_12, q_142_15, q_142_16, q_142_17, Nat.reduceAdd, kn_38, rn_38, e2]
    simp (decide := true) only [gN1_int, gN1_ref, gN1_null, gN1_long, gTg8_8, gTg8_14, gTg9_9, gTg9_13, gTgA_8, gTgA_9, gTgA_10, gTgA_11, gTgA_13, gTgA_14, gB01_0, gB01_1, gB01_b, List.cons_append, List.nil_append, Option.toList_some, Option.toList_none, Option.bind_some, ↓reduceIte, eq_self, not_true_eq_false, not_false_eq_true, b2i_0, b2i_1, up_eq, up_ne, up_up, up_sort, up_self, fl_at, nI_s, q_82_128, q_82_131, q_142_15, q_142_16, q_142_17, k38, hpl]
  · rw [hhi 1001 (by omega)]
    funext j
    rfl
  · unfold KO
    rw [hhi 1000 (by omega)]
    exact ⟨rfl, rfl, rfl, rfl, rfl⟩
  · intro i
    rw [hhi (1030 + i) (by omega)]
    funext j
    unfold gIs g_sI
    rw [if_neg (show ¬ 1030 + i < 1000 by omega), if_neg (show ¬ 1030 + i = 1000 by omega), if_neg (show ¬ 1030 + i = 1001 by omega), show 1030 + i - 1030 = i by omega]
  · exact rel_0 (by rw [hlo 1 (by omega)]; exact q1) (by rw [hlo 2 (by omega)]; exact q2) (by rw [hlo 3 (by omega)]; exact q3) (by rw [hlo 3 (by omega)]; exact q35) (by rw [hlo 4 (by omega)]; exact q4) (by rw [hlo 5 (by omega)]; exact q5) (by rw [hlo 6 (by omega)]; exact q6) (by rw [hlo 7 (by omega)]; exact q7) (by rw [hlo 13 (by omega)]; exact q13) (by rw [hlo 15 (by omega)]; exact q15) (by rw [hlo 16 (by omega)]; exact q16) (by rw [hlo 21 (by omega)]; exact q21) (by rw [hlo 25 (by omega)]; exact q25) (by rw [hlo 26 (by omega)]; exact q26) (by rw [hlo 27 (by omega)]; exact q27) hj14 h38 h39 h40 h41 h42 (hmid 43 (by omega) (by omega)) (hmid 46 (by omega) (by omega)) (hmid 48 (by omega) (by omega)) p5
theorem g_law : g_Law := by
  intro n xs hn
  obtain ⟨m, I, J, e, hm, h1, h2, h3, h4⟩ := lw_start n xs
  have hk : gKd (53, m, fl kT (kB n) 53, RF_51) 1001 = (14, n) := by rw [kB_hi (by omega)]; rfl
  obtain ⟨I', J', e2⟩ := lw_loop mk_St hk hn n 0 I J (by omega) (by omega) h1 h4 h2 h3
  exact ⟨_, I', J', e.trans e2, by show 53 ≤ 600000; omega, by show m ≤ 7302250; omega⟩
end
