/-! keep, back, cloister -/
section
variable {Z : gZ} {I : gI} {J : gJ}
theorem mO_fl {k o o' : Nat → Int32} {co co' : Nat → Int64} {st st' : Nat → Int32} {N t : Nat} (h : mO k o co st N t) : mO k (fl o o' 10) (fl co co' 10) (fl st st' 10) N t := by
  obtain ⟨h1, h2, h3, h4⟩ := h
  refine ⟨fun j hj => ?_, fun j hj => ?_, fun j hj hn => ?_, h4⟩
  · rw [fl_lt hj]; exact h1 j hj
  · rw [fl_lt hj]; exact h2 j hj
  · rw [fl_lt hj]; exact h3 j hj hn
theorem ob_fl {o o' : Nat → Int32} : bitsOf (ob (fl o o' 10)) 10 = bitsOf (ob o) 10 := bitsOf_congr (fun j hj => by unfold ob; rw [fl_lt hj])
theorem fl_cg {α : Type} {f f' g : Nat → α} {k : Nat} (h : ∀ j, j < k → f j = f' j) : fl f g k = fl f' g k := by
  funext j
  unfold fl
  by_cases q : j < k
  · simp only [q, if_true]; exact h j q
  · simp only [q, if_false]
theorem okO_b {k o : Nat → Int32} (h : okO k o) : ∀ j, j < 10 → gB01 (o j) = true := fun j hj => by
  rcases (h j hj).1 with e | e
  · rw [e]; exact gB01_0
  · rw [e]; exact gB01_1
theorem p_keep_0 (hZ : St Z) (hR : Rel I J) : Pair Z 64 109 [.ref 0, .int 0] [.ref 38, .int 0, .null] I J := by
  obtain ⟨N, T, t, m, r1, r2, r3, r4, r5, r6⟩ := id hR
  obtain ⟨q1, q2, q3, q4, q5, q6, q7⟩ := id r3
  have c1 := X6_keep_0 (J := J) hZ (okO_b q7.1)
  have c2 := X7_keep_0 (I := va_up (va_up (va_up (va_up I 18 (va_up (va_up (I 18) 3 (I 13 3)) 4 (I 13 4))) 20 (fl (I 15) (I 20) 10)) 21 (fl (I 16) (I 21) 10)) 26 (va_up (I 26) 0 1)) (J := va_up J 19 (fl (J 14) (J 19) 10)) hZ
  have hat := imgK_at (b := 0) (co := J 45) (st := I 46) (old := J 47) (i := 10) (Nat.le_refl _)
  unfold img0 at c2
  simp (decide := true) only [up_ne] at c2
  rw [q2, q1] at c2
  rw [q1] at c1
  have hk1 : RK0 (va_up (va_up (va_up (va_up (va_up I 18 (va_up (va_up (I 18) 3 (nI t)) 4 (I 13 4))) 20 (fl (I 15) (I 20) 10)) 21 (fl (I 16) (I 21) 10)) 26 (va_up (I 26) 0 1)) 48 (va_up (I 48) 0 1)) (va_up (va_up J 19 (fl (J 14) (J 19) 10)) 47 (va_up (va_up (va_up (imgK 0 (J 45) (I 46) (J 47) 10) (0 + 20) (I 38 20).toInt64) (0 + 21) (nI t).toInt64) (0 + 22) (I 38 5).toInt64)) N := by
    unfold RK0
    simp (decide := true) only [up_eq, up_ne]
    refine ⟨trivial, trivial, fun j hj => by rw [fl_lt hj]; exact okO_b q7.1 j hj, fun _ => ⟨t, rfl, trivial, by rw [q3], by rw [q6, ob_fl], fun g hg => ⟨?_, ?_⟩, mO_fl q7⟩⟩
    · rw [up_ne (by omega), up_ne (by omega), up_ne (by omega), (hat.1 g hg).1, fl_lt hg, q4]
    · rw [up_ne (by omega), up_ne (by omega), up_ne (by omega), (hat.1 g hg).2, fl_lt hg, q5]
  have hk2 : RK1 (va_up (va_up (va_up (va_up (va_up I 18 (va_up (va_up (I 18) 3 (nI t)) 4 (I 13 4))) 20 (fl (I 15) (I 20) 10)) 21 (fl (I 16) (I 21) 10)) 26 (va_up (I 26) 0 1)) 48 (va_up (I 48) 0 1)) (va_up (va_up J 19 (fl (J 14) (J 19) 10)) 47 (va_up (va_up (va_up (imgK 0 (J 45) (I 46) (J 47) 10) (0 + 20) (I 38 20).toInt64) (0 + 21) (nI t).toInt64) (0 + 22) (I 38 5).toInt64)) N := by
    unfold RK1 at r5 ⊢
    simp (decide := true) only [up_eq, up_ne]
    obtain ⟨x1, x2, x3, x4⟩ := r5
    refine ⟨x1, x2, x3, fun z => ?_⟩
    obtain ⟨u, y1, y2, y3, y4, y5, y6⟩ := x4 z
    refine ⟨u, y1, ?_, ?_, ?_, fun g hg => ⟨?_, ?_⟩, y6⟩
    · rw [hat.2 _ (by omega)]; exact y2
    · rw [hat.2 _ (by omega)]; exact y3
    · rw [hat.2 _ (by omega)]; exact y4
    · rw [up_ne (by omega), up_ne (by omega), up_ne (by omega), hat.2 _ (by omega)]; exact (y5 g hg).1
    · rw [up_ne (by omega), up_ne (by omega), up_ne (by omega), hat.2 _ (by omega)]; exact (y5 g hg).2
  exact ⟨_, _, _, _, _, c1, c2, ⟨N, T, t, m, (by unfold RH at r1 ⊢; simp (decide := true) only [up_eq, up_ne]; exact r1), (by unfold RT at r2 ⊢; simp (decide := true) only [up_eq, up_ne]; exact r2), (by unfold RM at r3 ⊢; simp (decide := true) only [up_eq, up_ne]; exact r3), by first | exact hk1 | exact hk2, by first | exact hk1 | exact hk2, (by unfold RS at r6 ⊢; simp (decide := true) only [up_eq, up_ne]; exact r6)⟩, fun b q => by rw [up_ne (by omega), up_ne (by omega), up_ne (by omega), up_ne (by omega)], fun b q => by rw [up_ne (by omega), up_ne (by omega), up_ne (by omega), up_ne (by omega), up_ne (by omega)]⟩
theorem p_keep_1 (hZ : St Z) (hR : Rel I J) : Pair Z 64 109 [.ref 0, .int 1] [.ref 38, .int 1, .null] I J := by
  obtain ⟨N, T, t, m, r1, r2, r3, r4, r5, r6⟩ := id hR
  obtain ⟨q1, q2, q3, q4, q5, q6, q7⟩ := id r3
  have c1 := X6_keep_1 (J := J) hZ (okO_b q7.1)
  have c2 := X7_keep_1 (I := va_up (va_up (va_up (va_up I 22 (va_up (va_up (I 22) 3 (I 13 3)) 4 (I 13 4))) 24 (fl (I 15) (I 24) 10)) 25 (fl (I 16) (I 25) 10)) 26 (va_up (I 26) 1 1)) (J := va_up J 23 (fl (J 14) (J 23) 10)) hZ
  have hat := imgK_at (b := 23) (co := J 45) (st := I 46) (old := J 47) (i := 10) (Nat.le_refl _)
  unfold img1 at c2
  simp (decide := true) only [up_ne] at c2
  rw [q2, q1] at c2
  rw [q1] at c1
  have hk1 : RK1 (va_up (va_up (va_up (va_up (va_up I 22 (va_up (va_up (I 22) 3 (nI t)) 4 (I 13 4))) 24 (fl (I 15) (I 24) 10)) 25 (fl (I 16) (I 25) 10)) 26 (va_up (I 26) 1 1)) 48 (va_up (I 48) 1 1)) (va_up (va_up J 23 (fl (J 14) (J 23) 10)) 47 (va_up (va_up (va_up (imgK 23 (J 45) (I 46) (J 47) 10) (23 + 20) (I 38 20).toInt64) (23 + 21) (nI t).toInt64) (23 + 22) (I 38 5).toInt64)) N := by
    unfold RK1
    simp (decide := true) only [up_eq, up_ne]
    refine ⟨trivial, trivial, fun j hj => by rw [fl_lt hj]; exact okO_b q7.1 j hj, fun _ => ⟨t, rfl, trivial, by rw [q3], by rw [q6, ob_fl], fun g hg => ⟨?_, ?_⟩, mO_fl q7⟩⟩
    · rw [up_ne (by omega), up_ne (by omega), up_ne (by omega), (hat.1 g hg).1, fl_lt hg, q4]
    · rw [up_ne (by omega), up_ne (by omega), up_ne (by omega), (hat.1 g hg).2, fl_lt hg, q5]
  have hk2 : RK0 (va_up (va_up (va_up (va_up (va_up I 22 (va_up (va_up (I 22) 3 (nI t)) 4 (I 13 4))) 24 (fl (I 15) (I 24) 10)) 25 (fl (I 16) (I 25) 10)) 26 (va_up (I 26) 1 1)) 48 (va_up (I 48) 1 1)) (va_up (va_up J 23 (fl (J 14) (J 23) 10)) 47 (va_up (va_up (va_up (imgK 23 (J 45) (I 46) (J 47) 10) (23 + 20) (I 38 20).toInt64) (23 + 21) (nI t).toInt64) (23 + 22) (I 38 5).toInt64)) N := by
    unfold RK0 at r4 ⊢
    simp (decide := true) only [up_eq, up_ne]
    obtain ⟨x1, x2, x3, x4⟩ := r4
    refine ⟨x1, x2, x3, fun z => ?_⟩
    obtain ⟨u, y1, y2, y3, y4, y5, y6⟩ := x4 z
    refine ⟨u, y1, ?_, ?_, ?_, fun g hg => ⟨?_, ?_⟩, y6⟩
    · rw [hat.2 _ (by omega)]; exact y2
    · rw [hat.2 _ (by omega)]; exact y3
    · rw [hat.2 _ (by omega)]; exact y4
    · rw [up_ne (by omega), up_ne (by omega), up_ne (by omega), hat.2 _ (by omega)]; exact (y5 g hg).1
    · rw [up_ne (by omega), up_ne (by omega), up_ne (by omega), hat.2 _ (by omega)]; exact (y5 g hg).2
  exact ⟨_, _, _, _, _, c1, c2, ⟨N, T, t, m, (by unfold RH at r1 ⊢; simp (decide := true) only [up_eq, up_ne]; exact r1), (by unfold RT at r2 ⊢; simp (decide := true) only [up_eq, up_ne]; exact r2), (by unfold RM at r3 ⊢; simp (decide := true) only [up_eq, up_ne]; exact r3), by first | exact hk1 | exact hk2, by first | exact hk1 | exact hk2, (by unfold RS at r6 ⊢; simp (decide := true) only [up_eq, up_ne]; exact r6)⟩, fun b q => by rw [up_ne (by omega), up_ne (by omega), up_ne (by omega), up_ne (by omega)], fun b q => by rw [up_ne (by omega), up_ne (by omega), up_ne (by omega), up_ne (by omega), up_ne (by omega)]⟩
theorem p_keep (hZ : St Z) (hR : Rel I J) (k : Int32) : Pair Z 64 109 [.ref 0, .int k] [.ref 38, .int k, .null] I J := by
  by_cases h : k < 0 ∨ 2 ≤ k
  · exact pr_q hR (X6_keep_no h) qf_refl (X7_keep_no h) qf_refl
  · have v1 : ¬ k < 0 := fun z => h (Or.inl z)
    have v2 : k ≤ 1 := by
      have : ¬ 2 ≤ k := fun z => h (Or.inr z)
      have h3 := Int32.not_le.mp this
      rw [Int32.lt_iff_toInt_lt] at h3
      rw [Int32.le_iff_toInt_le]
      have e2 : (2 : Int32).toInt = 2 := rfl
      have e1 : (1 : Int32).toInt = 1 := rfl
      omega
    rcases v01 v1 v2 with rfl | rfl
    · exact p_keep_0 hZ hR
    · exact p_keep_1 hZ hR
theorem p_back_0 (hZ : St Z) (hR : Rel I J) : Pair Z 65 110 [.ref 0, .int 0] [.ref 38, .int 0, .null] I J := by
  obtain ⟨N, T, t, m, r1, r2, r3, r4, r5, r6⟩ := id hR
  obtain ⟨q1, q2, q3, q4, q5, q6, q7⟩ := id r3
  obtain ⟨x1, x2, x3, x4⟩ := id r4
  have c1 := X6_back_0 (J := J) hZ x3 x1
  by_cases z : I 26 0 = 0
  · have c2 := X7_back_0 (I := I) (J := J) hZ (by rw [x2]; exact x1)
    rw [if_pos z] at c1
    rw [if_pos (by rw [x2]; exact z)] at c2
    exact pr_q hR c1 qf_refl c2 qf_refl
  · obtain ⟨u, y1, y2, y3, y4, y5, y6⟩ := x4 z
    rw [if_neg z] at c1
    have c2 := X7_back_0 (I := va_up (va_up (va_up I 13 (va_up (va_up (I 13) 3 (I 18 3)) 4 (I 18 4))) 15 (fl (I 20) (I 15) 10)) 16 (fl (I 21) (I 16) 10)) (J := va_up J 14 (fl (J 19) (J 14) 10)) hZ (by simp (decide := true) only [up_ne]; rw [x2]; exact x1)
    simp (decide := true) only [up_ne] at c2
    rw [if_neg (by rw [x2]; exact z), y2, y3, y4, Int32.toInt32_toInt64, Int32.toInt32_toInt64, Int32.toInt32_toInt64] at c2
    refine ⟨_, _, _, _, _, c1, c2, ⟨N, T, u, m, (by unfold RH at r1 ⊢; simp (decide := true) only [up_eq, up_ne]; exact r1), (by unfold RT at r2 ⊢; simp (decide := true) only [up_eq, up_ne]; exact r2), ?_, (by unfold RK0 at r4 ⊢; simp (decide := true) only [up_eq, up_ne]; exact r4), (by unfold RK1 at r5 ⊢; simp (decide := true) only [up_eq, up_ne]; exact r5), (by unfold RS at r6 ⊢; simp (decide := true) only [up_eq, up_ne]; exact r6)⟩, fun b q => by rw [up_ne (by omega), up_ne (by omega), up_ne (by omega)], fun b q => by rw [up_ne (by omega), up_ne (by omega), up_ne (by omega), up_ne (by omega), up_ne (by omega)]⟩
    unfold RM
    simp (decide := true) only [up_eq, up_ne]
    refine ⟨y1, y1, trivial, ?_, ?_, by rw [ob_fl], mO_fl y6⟩
    · rw [q4]; exact fl_cg (fun j hj => (y5 j hj).1)
    · rw [q5]; exact fl_cg (fun j hj => by rw [(y5 j hj).2, Int32.toInt32_toInt64])
theorem p_back_1 (hZ : St Z) (hR : Rel I J) : Pair Z 65 110 [.ref 0, .int 1] [.ref 38, .int 1, .null] I J := by
  obtain ⟨N, T, t, m, r1, r2, r3, r4, r5, r6⟩ := id hR
  obtain ⟨q1, q2, q3, q4, q5, q6, q7⟩ := id r3
  obtain ⟨x1, x2, x3, x4⟩ := id r5
  have c1 := X6_back_1 (J := J) hZ x3 x1
  by_cases z : I 26 1 = 0
  · have c2 := X7_back_1 (I := I) (J := J) hZ (by rw [x2]; exact x1)
    rw [if_pos z] at c1
    rw [if_pos (by rw [x2]; exact z)] at c2
    exact pr_q hR c1 qf_refl c2 qf_refl
  · obtain ⟨u, y1, y2, y3, y4, y5, y6⟩ := x4 z
    rw [if_neg z] at c1
    have c2 := X7_back_1 (I := va_up (va_up (va_up I 13 (va_up (va_up (I 13) 3 (I 22 3)) 4 (I 22 4))) 15 (fl (I 24) (I 15) 10)) 16 (fl (I 25) (I 16) 10)) (J := va_up J 14 (fl (J 23) (J 14) 10)) hZ (by simp (decide := true) only [up_ne]; rw [x2]; exact x1)
    simp (decide := true) only [up_ne] at c2
    rw [if_neg (by rw [x2]; exact z), y2, y3, y4, Int32.toInt32_toInt64, Int32.toInt32_toInt64, Int32.toInt32_toInt64] at c2
    refine ⟨_, _, _, _, _, c1, c2, ⟨N, T, u, m, (by unfold RH at r1 ⊢; simp (decide := true) only [up_eq, up_ne]; exact r1), (by unfold RT at r2 ⊢; simp (decide := true) only [up_eq, up_ne]; exact r2), ?_, (by unfold RK0 at r4 ⊢; simp (decide := true) only [up_eq, up_ne]; exact r4), (by unfold RK1 at r5 ⊢; simp (decide := true) only [up_eq, up_ne]; exact r5), (by unfold RS at r6 ⊢; simp (decide := true) only [up_eq, up_ne]; exact r6)⟩, fun b q => by rw [up_ne (by omega), up_ne (by omega), up_ne (by omega)], fun b q => by rw [up_ne (by omega), up_ne (by omega), up_ne (by omega), up_ne (by omega), up_ne (by omega)]⟩
    unfold RM
    simp (decide := true) only [up_eq, up_ne]
    refine ⟨y1, y1, trivial, ?_, ?_, by rw [ob_fl], mO_fl y6⟩
    · rw [q4]; exact fl_cg (fun j hj => (y5 j hj).1)
    · rw [q5]; exact fl_cg (fun j hj => by rw [(y5 j hj).2, Int32.toInt32_toInt64])
theorem p_back (hZ : St Z) (hR : Rel I J) (k : Int32) : Pair Z 65 110 [.ref 0, .int k] [.ref 38, .int k, .null] I J := by
  by_cases h : k < 0 ∨ 2 ≤ k
  · exact pr_q hR (X6_back_no h) qf_refl (X7_back_no h) qf_refl
  · have v1 : ¬ k < 0 := fun z => h (Or.inl z)
    have v2 : k ≤ 1 := by
      have : ¬ 2 ≤ k := fun z => h (Or.inr z)
      have h3 := Int32.not_le.mp this
      rw [Int32.lt_iff_toInt_lt] at h3
      rw [Int32.le_iff_toInt_le]
      have e2 : (2 : Int32).toInt = 2 := rfl
      have e1 : (1 : Int32).toInt = 1 := rfl
      omega
    rcases v01 v1 v2 with rfl | rfl
    · exact p_back_0 hZ hR
    · exact p_back_1 hZ hR
theorem p_cloister (hZ : St Z) (hR : Rel I J) (hX : TX I) : Pair Z 56 98 [.ref 0, .null] [.ref 38, .null] I J := by
  obtain ⟨N, T, t, m, r1, r2, r3, r4, r5, r6⟩ := id hR
  obtain ⟨n1, n2, n3, n4, n5, n6, n7, n8, n9, n10, n11, n12, n13⟩ := id r1
  obtain ⟨t1, t2, t3, t4⟩ := id r2
  obtain ⟨q1, q2, q3, q4, q5, q6, q7⟩ := id r3
  cases ho : (lnsF (I 2) T 12 0 (nI N)).1
  · obtain ⟨I1, c1, f1⟩ := X6_cloister_no (J := J) hZ hX t2 t1 n3 n1 n2 ho
    have e38 : ∀ k, I1 38 k = I 38 k := fun k => by rw [f1.1 38 (by omega) (by omega)]
    have e43 : I1 43 = I 2 := by rw [f1.1 43 (by omega) (by omega)]; exact t4
    obtain ⟨I2, J2, c2, f2⟩ := X7_cloister_no (I := I1) (J := J) hZ (T := T) (G := N) (by rw [e38]; exact t3) t1 (by rw [e38]; exact n4) n1 n2 (by rw [e43]; exact ho)
    exact pr_q hR c1 (qf_tg f1) c2 (qf_mh f2)
  · have hWf : Wf (DH I) := ⟨N, n1, n2, n3, n10, n11, n12⟩
    obtain ⟨w1, w2, w3⟩ := lns_wf 12 0 N (DH I) (by omega) n1 n2 n3 hWf ho
    obtain ⟨I1, J1, c1, a1, a2, a3, a4, a5, a6, a7, a8, a9, a10, a11⟩ := X6_cloister_yes (J := J) hZ hX t2 t1 n3 n1 n2 ho w2
    have e38 : I1 38 = I 38 := a9 38 (by omega)
    have e43 : I1 43 = I 2 := by rw [a9 43 (by omega)]; exact t4
    have edm : DM I1 = DH I := by
      unfold DM DH
      rw [e38, a9 39 (by omega), a9 40 (by omega), a9 41 (by omega), a9 42 (by omega), n4, n5, n6, n7, n8, n9, n3]
    obtain ⟨I2, J2, c2, b1, b2, b3, b4, b5, b6, b7, b8, b9, b10, b11, b12⟩ := X7_cloister_yes (I := I1) (J := J1) hZ (T := T) (G := N) (by rw [e38]; exact t3) t1 (by rw [e38]; exact n4) n1 n2 (by rw [e43]; exact ho) (by rw [e43]; exact w2) (by rw [e43]; exact w3)
    rw [e43] at c2
    rw [e43, edm] at b1
    generalize (lnsF (I 2) T 12 0 (nI N)).2.2.foldl dl (DH I) = D at w1 a1 b1
    obtain ⟨M, m1, m2, m3, m4, m5, m6⟩ := w1
    have A1 : I1 3 4 = D.1 := congrArg (fun x => x.1) a1
    have A2 : I1 3 5 = D.2.1 := congrArg (fun x => x.2.1) a1
    have A3 : I1 4 = D.2.2.1 := congrArg (fun x => x.2.2.1) a1
    have A4 : I1 5 = D.2.2.2.1 := congrArg (fun x => x.2.2.2.1) a1
    have A5 : I1 6 = D.2.2.2.2.1 := congrArg (fun x => x.2.2.2.2.1) a1
    have A6 : I1 7 = D.2.2.2.2.2 := congrArg (fun x => x.2.2.2.2.2) a1
    have B1 : I2 38 0 = D.1 := congrArg (fun x => x.1) b1
    have B2 : I2 38 6 = D.2.1 := congrArg (fun x => x.2.1) b1
    have B3 : I2 39 = D.2.2.1 := congrArg (fun x => x.2.2.1) b1
    have B4 : I2 40 = D.2.2.2.1 := congrArg (fun x => x.2.2.2.1) b1
    have B5 : I2 41 = D.2.2.2.2.1 := congrArg (fun x => x.2.2.2.2.1) b1
    have B6 : I2 42 = D.2.2.2.2.2 := congrArg (fun x => x.2.2.2.2.2) b1
    have lo : ∀ a, a < 38 → I2 a = I1 a := fun a q => b10 a (by omega)
    have hz : bitsOf (ob (fl (fun _ => 0) (I 16) 10)) 10 = 0 := by
      rw [ob_fl]
      decide
    refine ⟨_, _, _, _, _, c1, c2, ⟨M, 0, 0, 0, ?_, ?_, ?_, ?_, ?_, ?_⟩, fun b q => a9 b (by omega), fun b q => by rw [b10 b (by omega), a9 b (by omega)]⟩
    · unfold RH
      rw [lo 3 (by omega), lo 4 (by omega), lo 5 (by omega), lo 6 (by omega), lo 7 (by omega), A1, A2, A3, A4, A5, A6, B1, B2, B3, B4, B5, B6, b7, e38]
      exact ⟨m1, m2, m3, m3, rfl, rfl, rfl, rfl, rfl, m4, m5, m6, n13⟩
    · unfold RT
      rw [lo 1 (by omega), lo 2 (by omega), a2, b3, b10 43 (by omega), e43, a9 2 (by omega)]
      exact ⟨by omega, rfl, rfl, rfl⟩
    · unfold RM
      rw [lo 13 (by omega), lo 15 (by omega), lo 16 (by omega), lo 6 (by omega), a3, a4, a5, a6, b2, b4, b5, b8, b11, b12 14 (by decide) (by decide), a10, a11 45 (by decide), a9 46 (by omega), q4, q5, B2, A2, hz]
      refine ⟨rfl, rfl, rfl, rfl, rfl, rfl, fun j hj => ?_, fun j hj => ?_, fun j hj _ => ?_, by omega⟩
      · rw [fl_lt hj]; exact ⟨Or.inl rfl, fun _ => rfl⟩
      · rw [fl_lt hj]; exact ⟨⟨0, by decide, rfl⟩, fun _ => rfl⟩
      · rw [fl_lt hj]
    · unfold RK0
      rw [lo 26 (by omega), lo 21 (by omega), a8, b9, a9 21 (by omega)]
      exact ⟨by rw [up_ne (by decide), up_eq]; exact gB01_0, by rw [up_ne (by decide), up_eq, up_ne (by decide), up_eq], r4.2.2.1, fun z => absurd (by rw [up_ne (by decide), up_eq]) z⟩
    · unfold RK1
      rw [lo 26 (by omega), lo 25 (by omega), a8, b9, a9 25 (by omega)]
      exact ⟨by rw [up_eq]; exact gB01_0, by rw [up_eq, up_eq], r5.2.2.1, fun z => absurd (by rw [up_eq]) z⟩
    · unfold RS
      rw [lo 27 (by omega), a7, b6]
      exact ⟨by omega, rfl, rfl, fun i hi => absurd hi (by omega)⟩
end
