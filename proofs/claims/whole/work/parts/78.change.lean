/-! calls that change something -/
section
variable {Z : gZ} {I : gI} {J : gJ}
theorem p_write (hZ : St Z) (hR : Rel I J) (b : Int64) (n : Int32) : Pair Z 53 87 [.ref 0, .long b, .null, .int n, .null] [.ref 38, .long b, .null, .int n, .null] I J := by
  obtain ⟨N, T, t, m, r1, r2, r3, r4, r5, r6⟩ := id hR
  obtain ⟨t1, t2, t3, t4⟩ := id r2
  have c1 := X6_write (J := J) hZ t2 t1 (b := b) (n := n)
  by_cases h1 : n < 1 ∨ 8 < n
  · have c2 := X7_write (J := J) hZ t3 t1 (b := b) (n := n)
    rw [if_pos h1] at c1 c2
    exact pr_q hR c1 qf_refl c2 qf_refl
  · by_cases h2 : 200 < T + n.toNatClampNeg
    · have c2 := X7_write (J := J) hZ t3 t1 (b := b) (n := n)
      rw [if_neg h1, if_pos h2] at c1 c2
      exact pr_q hR c1 qf_refl c2 qf_refl
    · have c2 := X7_write (I := va_up (va_up I 1 (va_up (I 1) 1 (nI (T + n.toNatClampNeg)))) 2 (tx1 (I 2) T b n.toNatClampNeg)) (J := J) hZ (T := T) (by simp (decide := true) only [up_ne]; exact t3) t1 (b := b) (n := n)
      rw [if_neg h1, if_neg h2] at c1 c2
      refine ⟨_, _, _, _, _, c1, c2, ⟨N, T + n.toNatClampNeg, t, m, (by unfold RH at r1 ⊢; simp (decide := true) only [up_eq, up_ne]; exact r1), ?_, (by unfold RM at r3 ⊢; simp (decide := true) only [up_eq, up_ne]; exact r3), (by unfold RK0 at r4 ⊢; simp (decide := true) only [up_eq, up_ne]; exact r4), (by unfold RK1 at r5 ⊢; simp (decide := true) only [up_eq, up_ne]; exact r5), (by unfold RS at r6 ⊢; simp (decide := true) only [up_eq, up_ne]; exact r6)⟩, fun b q => by rw [up_ne (by omega), up_ne (by omega)], fun b q => by rw [up_ne (by omega), up_ne (by omega), up_ne (by omega), up_ne (by omega)]⟩
      unfold RT
      simp (decide := true) only [up_eq, up_ne]
      exact ⟨by omega, trivial, trivial, by rw [t4]⟩
theorem p_erase (hZ : St Z) (hR : Rel I J) : Pair Z 54 88 [.ref 0, .null] [.ref 38, .null] I J := by
  obtain ⟨N, T, t, m, r1, r2, r3, r4, r5, r6⟩ := id hR
  obtain ⟨t1, t2, t3, t4⟩ := id r2
  have c1 := X6_erase (I := I) (J := J) hZ
  have c2 := X7_erase (I := va_up I 1 (va_up (I 1) 1 0)) (J := J) hZ
  rw [t2] at c1
  simp (decide := true) only [up_ne] at c2
  rw [t3] at c2
  refine ⟨_, _, _, _, _, c1, c2, ⟨N, 0, t, m, (by unfold RH at r1 ⊢; simp (decide := true) only [up_eq, up_ne]; exact r1), ?_, (by unfold RM at r3 ⊢; simp (decide := true) only [up_eq, up_ne]; exact r3), (by unfold RK0 at r4 ⊢; simp (decide := true) only [up_eq, up_ne]; exact r4), (by unfold RK1 at r5 ⊢; simp (decide := true) only [up_eq, up_ne]; exact r5), (by unfold RS at r6 ⊢; simp (decide := true) only [up_eq, up_ne]; exact r6)⟩, fun b q => by rw [up_ne (by omega)], fun b q => by rw [up_ne (by omega), up_ne (by omega)]⟩
  unfold RT
  simp (decide := true) only [up_eq, up_ne]
  exact ⟨trivial, trivial, trivial, t4⟩
theorem p_turn (hZ : St Z) (hR : Rel I J) (w : Int32) : Pair Z 63 108 [.ref 0, .int w, .null] [.ref 38, .int w, .null] I J := by
  obtain ⟨N, T, t, m, r1, r2, r3, r4, r5, r6⟩ := id hR
  obtain ⟨q1, q2, q3, q4, q5, q6, q7⟩ := id r3
  have c1 := X6_turn (I := I) (J := J) hZ (w := w)
  by_cases h1 : w < 0 ∨ 2 < w
  · have c2 := X7_turn (I := I) (J := J) hZ (w := w)
    rw [if_pos h1] at c1 c2
    exact pr_q hR c1 qf_refl c2 qf_refl
  · have c2 := X7_turn (I := va_up I 13 (va_up (I 13) 4 w)) (J := J) hZ (w := w)
    rw [if_neg h1] at c1 c2
    simp (decide := true) only [up_ne] at c2
    rw [q3] at c2
    refine ⟨_, _, _, _, _, c1, c2, ⟨N, T, t, m, (by unfold RH at r1 ⊢; simp (decide := true) only [up_eq, up_ne]; exact r1), (by unfold RT at r2 ⊢; simp (decide := true) only [up_eq, up_ne]; exact r2), ?_, (by unfold RK0 at r4 ⊢; simp (decide := true) only [up_eq, up_ne]; exact r4), (by unfold RK1 at r5 ⊢; simp (decide := true) only [up_eq, up_ne]; exact r5), (by unfold RS at r6 ⊢; simp (decide := true) only [up_eq, up_ne]; exact r6)⟩, fun b q => by rw [up_ne (by omega)], fun b q => by rw [up_ne (by omega), up_ne (by omega)]⟩
    unfold RM
    simp (decide := true) only [up_eq, up_ne]
    exact ⟨q1, q2, trivial, q4, q5, q6, q7⟩
theorem p_forget (hZ : St Z) (hR : Rel I J) : Pair Z 79 129 [.ref 0, .null] [.ref 38, .null] I J := by
  obtain ⟨N, T, t, m, r1, r2, r3, r4, r5, r6⟩ := id hR
  obtain ⟨s1, s2, s3, s4⟩ := id r6
  have c1 := X6_forget (I := I) (J := J) hZ
  have c2 := X7_forget (I := va_up I 27 (va_up (I 27) 2 0)) (J := J) hZ
  rw [s2] at c1
  simp (decide := true) only [up_ne] at c2
  rw [s3] at c2
  refine ⟨_, _, _, _, _, c1, c2, ⟨N, T, t, 0, (by unfold RH at r1 ⊢; simp (decide := true) only [up_eq, up_ne]; exact r1), (by unfold RT at r2 ⊢; simp (decide := true) only [up_eq, up_ne]; exact r2), (by unfold RM at r3 ⊢; simp (decide := true) only [up_eq, up_ne]; exact r3), (by unfold RK0 at r4 ⊢; simp (decide := true) only [up_eq, up_ne]; exact r4), (by unfold RK1 at r5 ⊢; simp (decide := true) only [up_eq, up_ne]; exact r5), ?_⟩, fun b q => by rw [up_ne (by omega)], fun b q => by rw [up_ne (by omega), up_ne (by omega)]⟩
  unfold RS
  simp (decide := true) only [up_eq, up_ne]
  exact ⟨trivial, trivial, trivial, fun i hi => absurd hi (by omega)⟩
theorem p_seen (hZ : St Z) (hR : Rel I J) (g b : Int32) : Pair Z 78 128 [.ref 0, .int g, .int b] [.ref 38, .int g, .int b] I J := by
  obtain ⟨N, T, t, m, r1, r2, r3, r4, r5, r6⟩ := id hR
  obtain ⟨s1, s2, s3, s4⟩ := id r6
  rcases gg r1.2.1 g with h | ⟨j, hj, rfl⟩
  · exact pr_q hR (X6_seen_no hZ (by rw [r1.2.2.1]; exact h)) qf_refl (X7_seen_no hZ r1.2.2.2.1 (by have := r1.1; omega) r1.2.1 h) qf_refl
  · have c1 := X6_seen (J := J) hZ r1.2.2.1 r1.2.1 hj s2 s1 (b := b)
    by_cases h1 : b < 0 ∨ 1 < b
    · have c2 := X7_seen (J := J) hZ r1.2.2.2.1 r1.2.1 hj s3 s1 (b := b)
      rw [if_pos h1] at c1 c2
      exact pr_q hR c1 qf_refl c2 qf_refl
    · by_cases h2 : m = 8
      · have c2 := X7_seen (J := J) hZ r1.2.2.2.1 r1.2.1 hj s3 s1 (b := b)
        rw [if_neg h1, if_pos h2] at c1 c2
        exact pr_q hR c1 qf_refl c2 qf_refl
      · have c2 := X7_seen (I := va_up (va_up (va_up I 27 (va_up (I 27) 2 (nI (m + 1)))) 28 (va_up (I 28) m (nI j))) 29 (va_up (I 29) m b)) (J := J) hZ (N := N) (m := m) (by simp (decide := true) only [up_ne]; exact r1.2.2.2.1) r1.2.1 hj (by simp (decide := true) only [up_ne]; exact s3) s1 (b := b)
        rw [if_neg h1, if_neg h2] at c1 c2
        refine ⟨_, _, _, _, _, c1, c2, ⟨N, T, t, m + 1, (by unfold RH at r1 ⊢; simp (decide := true) only [up_eq, up_ne]; exact r1), (by unfold RT at r2 ⊢; simp (decide := true) only [up_eq, up_ne]; exact r2), (by unfold RM at r3 ⊢; simp (decide := true) only [up_eq, up_ne]; exact r3), (by unfold RK0 at r4 ⊢; simp (decide := true) only [up_eq, up_ne]; exact r4), (by unfold RK1 at r5 ⊢; simp (decide := true) only [up_eq, up_ne]; exact r5), ?_⟩, fun b q => by rw [up_ne (by omega), up_ne (by omega), up_ne (by omega)], fun b q => by rw [up_ne (by omega), up_ne (by omega), up_ne (by omega), up_ne (by omega), up_ne (by omega)]⟩
        unfold RS
        simp (decide := true) only [up_eq, up_ne]
        refine ⟨by omega, trivial, trivial, fun i hi => ?_⟩
        by_cases e : i = m
        · subst e
          refine ⟨?_, ?_⟩
          · rw [up_eq, up_ne (by omega), up_eq]
          · rw [up_eq, up_eq]
        · obtain ⟨x1, x2⟩ := s4 i (by omega)
          refine ⟨?_, ?_⟩
          · rw [up_ne e, up_ne (by omega), up_ne (by omega)]; exact x1
          · rw [up_ne e, up_ne (by omega), up_ne (by omega)]; exact x2
theorem p_strike (hZ : St Z) (hR : Rel I J) (g : Int32) : Pair Z 61 105 [.ref 0, .int g] [.ref 38, .int g] I J := by
  obtain ⟨N, T, t, m, r1, r2, r3, r4, r5, r6⟩ := id hR
  obtain ⟨n1, n2, n3, n4, n5, n6, n7, n8, n9, n10, n11, n12, n13⟩ := id r1
  obtain ⟨q1, q2, q3, q4, q5, q6, q7, q8, q9, q10⟩ := id r3
  rcases gg n2 g with h | ⟨j, hj, rfl⟩
  · exact pr_q hR (X6_strike_no hZ (by rw [n3]; exact h)) qf_refl (X7_strike_no hZ n4 (by omega) n2 h) qf_refl
  · have c1 := X6_strike (J := J) hZ n3 n2 hj
    have c2 := X7_strike (I := va_up (va_up I 15 (va_up (I 15) j (I 15 j + 1))) 16 (fl (oddN (I 4) (I 5) (I 6) (I 16) (I 13 4) j) (I 16) N)) (J := va_up J 14 (fl (comeN (I 4) (I 5) (I 6) (I 7) (I 16) (I 13 4) (J 14) j) (J 14) N)) hZ (N := N) (q := j) (o := I 16) (by simp (decide := true) only [up_ne]; exact n4) n2 hj (by simp (decide := true) only [up_ne]; exact q6) (by simp (decide := true) only [up_ne]; rw [n8]; exact q7)
    simp (decide := true) only [up_ne] at c2
    rw [n6, n7, n8, n9, q3, q4, q5] at c2
    refine ⟨_, _, _, _, _, c1, c2, ⟨N, T, t, m, (by unfold RH at r1 ⊢; simp (decide := true) only [up_eq, up_ne]; exact r1), (by unfold RT at r2 ⊢; simp (decide := true) only [up_eq, up_ne]; exact r2), ?_, (by unfold RK0 at r4 ⊢; simp (decide := true) only [up_eq, up_ne]; exact r4), (by unfold RK1 at r5 ⊢; simp (decide := true) only [up_eq, up_ne]; exact r5), (by unfold RS at r6 ⊢; simp (decide := true) only [up_eq, up_ne]; exact r6)⟩, fun b q => by rw [up_ne (by omega), up_ne (by omega)], fun b q => by rw [up_ne (by omega), up_ne (by omega), up_ne (by omega), up_ne (by omega)]⟩
    unfold RM
    simp (decide := true) only [up_eq, up_ne]
    refine ⟨q1, q2, q3, trivial, trivial, trivial, okO_odd q7, cB_N n12 q8, fun i hi hn => ?_, q10⟩
    rw [up_ne (by omega)]
    exact q9 i hi hn
theorem p_go (hZ : St Z) (hR : Rel I J) (n : Int32) : Pair Z 62 107 [.ref 0, .int n, .null, .null] [.ref 38, .int n, .null, .null] I J := by
  obtain ⟨N, T, t, m, r1, r2, r3, r4, r5, r6⟩ := id hR
  obtain ⟨n1, n2, n3, n4, n5, n6, n7, n8, n9, n10, n11, n12, n13⟩ := id r1
  obtain ⟨q1, q2, q3, q4, q5, q6, q7, q8, q9, q10⟩ := id r3
  have c1 := X6_go (J := J) hZ n3 n2 q1 q10 (n := n)
  by_cases h1 : n < 1 ∨ 99 < n
  · have c2 := X7_go (J := J) hZ n4 n2 q6 (by rw [n8]; exact q7) q2 q10 (n := n)
    rw [if_pos h1] at c1 c2
    exact pr_q hR c1 qf_refl c2 qf_refl
  · by_cases h2 : 99999 < t + n.toNatClampNeg
    · have c2 := X7_go (J := J) hZ n4 n2 q6 (by rw [n8]; exact q7) q2 q10 (n := n)
      rw [if_neg h1, if_pos h2] at c1 c2
      exact pr_q hR c1 qf_refl c2 qf_refl
    · rw [if_neg h1, if_neg h2] at c1
      have c2 := X7_go (I := va_up (va_up (va_up I 13 (va_up (I 13) 3 (nI (t + n.toNatClampNeg)))) 15 (goA (I 4) (I 5) (I 6) (I 7) (I 13 4) N (I 15) (I 16) (J 14) n.toNatClampNeg).1) 16 (goA (I 4) (I 5) (I 6) (I 7) (I 13 4) N (I 15) (I 16) (J 14) n.toNatClampNeg).2.1) (J := va_up J 14 (goA (I 4) (I 5) (I 6) (I 7) (I 13 4) N (I 15) (I 16) (J 14) n.toNatClampNeg).2.2) hZ (N := N) (t := t) (o := I 16) (by simp (decide := true) only [up_ne]; exact n4) n2 (by simp (decide := true) only [up_ne]; exact q6) (by simp (decide := true) only [up_ne]; rw [n8]; exact q7) (by simp (decide := true) only [up_ne]; exact q2) q10 (n := n)
      rw [if_neg h1, if_neg h2] at c2
      simp (decide := true) only [up_ne] at c2
      rw [n6, n7, n8, n9, q3, q4, q5] at c2
      refine ⟨_, _, _, _, _, c1, c2, ⟨N, T, t + n.toNatClampNeg, m, (by unfold RH at r1 ⊢; simp (decide := true) only [up_eq, up_ne]; exact r1), (by unfold RT at r2 ⊢; simp (decide := true) only [up_eq, up_ne]; exact r2), ?_, (by unfold RK0 at r4 ⊢; simp (decide := true) only [up_eq, up_ne]; exact r4), (by unfold RK1 at r5 ⊢; simp (decide := true) only [up_eq, up_ne]; exact r5), (by unfold RS at r6 ⊢; simp (decide := true) only [up_eq, up_ne]; exact r6)⟩, fun b q => by rw [up_ne (by omega), up_ne (by omega), up_ne (by omega)], fun b q => by rw [up_ne (by omega), up_ne (by omega), up_ne (by omega), up_ne (by omega), up_ne (by omega)]⟩
      have hB := go_B (h := I 4) (s := I 5) (k := I 6) (o := I 16) (w := I 13 4) n12 n2 q8 q9 n.toNatClampNeg
      unfold RM
      simp (decide := true) only [up_eq, up_ne]
      exact ⟨trivial, trivial, q3, trivial, trivial, trivial, okO_go q7 _, hB.1, hB.2, by omega⟩
end
