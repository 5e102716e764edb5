/-! calls that only ask -/
section
variable {Z : gZ} {I : gI} {J : gJ}
theorem gg {N : Nat} (hN : N ≤ 10) (g : Int32) : hasG (nI N) g = false ∨ ∃ j, j < N ∧ g = nI j := by
  cases h : hasG (nI N) g
  · exact Or.inl rfl
  · exact Or.inr ((hasG_iff rfl (by omega)).mp h)
theorem p_gong (hZ : St Z) (hR : Rel I J) (g v : Int32) : Pair Z 57 101 [.ref 0, .int g, .int v] [.ref 38, .int g, .int v, .null, .null] I J := by
  obtain ⟨N, T, t, m, ⟨n1, n2, n3, n4, n5, n6, n7, n8, n9, n10, n11, n12, n13⟩, r2, ⟨q1, q2, q3, q4, q5, q6, q7, q8, q9, q10⟩, r4, r5, r6⟩ := id hR
  rcases gg n2 g with h | ⟨j, hj, rfl⟩
  · exact pr_q hR (X6_gong_no hZ (by rw [n3]; exact h)) qf_refl (X7_gong_no hZ n4 (by omega) n2 h) qf_refl
  · have c2 := X7_gong (J := J) hZ n4 n2 hj (what := v)
    obtain ⟨v', hv, e⟩ := (q8 j (by omega)).1
    rw [n6, n7, n8, q3, q5, q4, e, ← nx_eq hv, ← e] at c2
    exact pr_q hR (X6_gong hZ n3 n2 hj) qf_refl c2 qf_refl
theorem p_monk (hZ : St Z) (hR : Rel I J) (g v : Int32) : Pair Z 58 102 [.ref 0, .int g, .int v] [.ref 38, .int g, .int v] I J := by
  obtain ⟨N, T, t, m, ⟨n1, n2, n3, n4, n5, n6, n7, n8, n9, n10, n11, n12, n13⟩, r2, ⟨q1, q2, q3, q4, q5, q6, q7, q8, q9, q10⟩, r4, r5, r6⟩ := id hR
  rcases gg n2 g with h | ⟨j, hj, rfl⟩
  · exact pr_q hR (X6_monk_no hZ (by rw [n3]; exact h)) qf_refl (X7_monk_no hZ n4 (by omega) n2 h) qf_refl
  · have c2 := X7_monk (J := J) hZ n4 n2 hj (what := v)
    have hb : (I 38 20 >>> (nI j &&& 31)) &&& 1 = if I 16 j = 0 then 0 else 1 := by
      rw [q6, bits_bit (by omega) (by omega), decide_eq_true (show j < 10 by omega), Bool.true_and]
      rcases (q7 j (by omega)).1 with z | z <;> simp [ob, z, b2i]
    rw [n8, n9, q3, hb] at c2
    exact pr_q hR (X6_monk hZ n3 n2 hj) qf_refl c2 qf_refl
theorem p_as (hZ : St Z) (hR : Rel I J) (hK : KO I) (g v : Int32) : Pair Z 59 103 [.ref 0, .int g, .int v] [.ref 38, .int g, .int v, .null, .null] I J := by
  obtain ⟨N, T, t, m, ⟨n1, n2, n3, n4, n5, n6, n7, n8, n9, n10, n11, n12, n13⟩, r2, ⟨q1, q2, q3, q4, q5, q6, q7, q8, q9, q10⟩, r4, r5, r6⟩ := id hR
  rcases gg n2 g with h | ⟨j, hj, rfl⟩
  · exact pr_q hR (X6_as_no hZ (by rw [n3]; exact h)) qf_refl (X7_as_no hZ n4 (by omega) n2 h) qf_refl
  · have c2 := X7_as (J := J) hZ n4 n2 hj (kind := v)
    rw [n8, n9, q3] at c2
    exact pr_q hR (X6_as hZ hK n3 n2 hj (n11 j (by omega))) qf_refl c2 qf_refl
theorem p_count (hZ : St Z) (hR : Rel I J) (v : Int32) : Pair Z 81 132 [.ref 0, .int v] [.ref 38, .int v, .null, .null, .null] I J := by
  obtain ⟨N, T, t, m, ⟨n1, n2, n3, n4, n5, n6, n7, n8, n9, n10, n11, n12, n13⟩, ⟨t1, t2, t3, t4⟩, ⟨q1, q2, q3, q4, q5, q6, q7, q8, q9, q10⟩, r4, r5, ⟨s1, s2, s3, s4⟩⟩ := id hR
  have c1 := X6_count (I := I) (J := J) hZ (what := v)
  have c2 := X7_count (J := J) hZ n4 n2 (what := v)
  have e1 : bitsOf (fun g => !decide (J 14 g = 0)) 10 = bitsOf (fun g => !decide (J 14 g = 0)) N := bits_N n2 (fun j h1 h2 => by rw [(q8 j h1).2 h2]; decide)
  rw [n3, q1, e1, sum_N n2 q9, s2, t2] at c1
  rw [q3, q2, q4, q5, s3, t3] at c2
  exact pr_q hR c1 qf_refl c2 qf_refl
theorem p_fault (hZ : St Z) (hR : Rel I J) (hX : TX I) : Pair Z 55 96 [.ref 0] [.ref 38] I J := by
  obtain ⟨N, T, t, m, ⟨n1, n2, n3, n4, n5, n6, n7, n8, n9, n10, n11, n12, n13⟩, ⟨t1, t2, t3, t4⟩, r3, r4, r5, r6⟩ := id hR
  obtain ⟨I1, c1, f1⟩ := X6_fault (J := J) hZ hX t2 t1 n3 n1 n2
  have qf1 : QF I I1 J J := qf_tg f1
  have e38 : ∀ k, I1 38 k = I 38 k := fun k => by rw [f1.1 38 (by omega) (by omega)]
  have e43 : I1 43 = I 2 := by rw [f1.1 43 (by omega) (by omega)]; exact t4
  obtain ⟨I2, J2, c2, f2⟩ := X7_fault (I := I1) (J := J) hZ (T := T) (G := N) (by rw [e38]; exact t3) t1 (by rw [e38]; exact n4) n1 n2
  rw [e43] at c2
  exact pr_q hR c1 qf1 c2 (qf_mh f2)
end
