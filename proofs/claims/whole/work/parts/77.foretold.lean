/-! calls that foretell -/
section
variable {Z : gZ} {I : gI} {J : gJ}
theorem hm_jf {N t : Nat} (h1 : RH I N) (h3 : RM I J N t) {I1 : gI} (hj : Jf I I1) : HM I1 N (I 13 4) (-1) ∧ I1 39 = I 4 ∧ I1 40 = I 5 ∧ I1 41 = I 6 ∧ I1 42 = I 7 := by
  obtain ⟨n1, n2, n3, n4, n5, n6, n7, n8, n9, n10, n11, n12, n13⟩ := h1
  obtain ⟨q1, q2, q3, q4, q5, q6, q7⟩ := h3
  unfold HM
  rw [hj 38 (by omega), hj 39 (by omega), hj 40 (by omega), hj 41 (by omega), hj 42 (by omega), n6, n7, n8, n9]
  exact ⟨⟨n4, n2, n10, q3, n13⟩, rfl, rfl, rfl, rfl⟩
theorem ho_rh {N : Nat} (h1 : RH I N) : Ho I N := ⟨h1.2.2.1, h1.2.1, h1.2.2.2.2.2.2.2.2.2.1⟩
theorem p_first (hZ : St Z) (hR : Rel I J) (c g : Int32) : Pair Z 66 115 [.ref 0, .int c, .int g] [.ref 38, .int c, .int g] I J := by
  obtain ⟨N, T, t, m, r1, r2, r3, r4, r5, r6⟩ := id hR
  have hM := (hm_jf r1 r3 jf_refl).1
  have hno : hasG (nI N) c = false ∨ hasG (nI N) g = false → Pair Z 66 115 [.ref 0, .int c, .int g] [.ref 38, .int c, .int g] I J := fun h => pr_q hR (X6_first_no hZ (by rw [r1.2.2.1]; exact h)) qf_refl (X7_first_no hZ hM (by have := r1.1; omega) h) qf_refl
  rcases gg r1.2.1 c with h | ⟨c', hc, rfl⟩
  · exact hno (Or.inl h)
  · rcases gg r1.2.1 g with h | ⟨g', hg, rfl⟩
    · exact hno (Or.inr h)
    · obtain ⟨I1, c1, f1⟩ := X6_first (J := J) hZ (ho_rh r1) hc hg
      obtain ⟨h0, e39, e40, e41, e42⟩ := hm_jf r1 r3 f1
      have c2 := X7_first (J := J) hZ h0 hc hg
      rw [e39, e40, e41, e42] at c2
      exact pr_q hR c1 (qf_jf f1) c2 qf_refl
theorem p_who (hZ : St Z) (hR : Rel I J) (c : Int32) : Pair Z 67 116 [.ref 0, .int c] [.ref 38, .int c] I J := by
  obtain ⟨N, T, t, m, r1, r2, r3, r4, r5, r6⟩ := id hR
  have hM := (hm_jf r1 r3 jf_refl).1
  rcases gg r1.2.1 c with h | ⟨c', hc, rfl⟩
  · exact pr_q hR (X6_who_no hZ (by rw [r1.2.2.1]; exact h)) qf_refl (X7_who_no hZ hM (by have := r1.1; omega) h) qf_refl
  · obtain ⟨I1, c1, f1⟩ := X6_who (J := J) hZ (ho_rh r1) hc
    obtain ⟨h0, e39, e40, e41, e42⟩ := hm_jf r1 r3 f1
    have c2 := X7_who (J := J) hZ h0 hc
    rw [e39, e40, e41, e42] at c2
    first
      | exact pr_q hR c1 (qf_jf f1) c2 qf_refl
      | exact pr_q hR c1 (qf_jf f1) c2 (qf_u (by omega))
      | exact pr_q hR c1 (qf_jf f1) c2.choose_spec (qf_u (by omega))
theorem p_round (hZ : St Z) (hR : Rel I J) (c : Int32) : Pair Z 69 118 [.ref 0, .int c] [.ref 38, .int c] I J := by
  obtain ⟨N, T, t, m, r1, r2, r3, r4, r5, r6⟩ := id hR
  have hM := (hm_jf r1 r3 jf_refl).1
  rcases gg r1.2.1 c with h | ⟨c', hc, rfl⟩
  · exact pr_q hR (X6_round_no hZ (by rw [r1.2.2.1]; exact h)) qf_refl (X7_round_no hZ hM (by have := r1.1; omega) h) qf_refl
  · obtain ⟨I1, c1, f1⟩ := X6_round (J := J) hZ (ho_rh r1) hc
    obtain ⟨h0, e39, e40, e41, e42⟩ := hm_jf r1 r3 f1
    have c2 := X7_round (J := J) hZ h0 hc
    rw [e39, e40, e41, e42] at c2
    first
      | exact pr_q hR c1 (qf_jf f1) c2 qf_refl
      | exact pr_q hR c1 (qf_jf f1) c2 (qf_u (by omega))
      | exact pr_q hR c1 (qf_jf f1) c2.choose_spec (qf_u (by omega))
theorem p_ends (hZ : St Z) (hR : Rel I J) (c : Int32) : Pair Z 68 117 [.ref 0, .int c] [.ref 38, .int c, .null, .null] I J := by
  obtain ⟨N, T, t, m, r1, r2, r3, r4, r5, r6⟩ := id hR
  have hM := (hm_jf r1 r3 jf_refl).1
  rcases gg r1.2.1 c with h | ⟨c', hc, rfl⟩
  · exact pr_q hR (X6_ends_no hZ (by rw [r1.2.2.1]; exact h)) qf_refl (X7_ends_no hZ hM (by have := r1.1; omega) h) qf_refl
  · obtain ⟨I1, c1, f1⟩ := X6_ends (J := J) hZ (ho_rh r1) hc
    obtain ⟨h0, e39, e40, e41, e42⟩ := hm_jf r1 r3 f1
    have c2 := X7_ends (J := J) hZ h0 hc
    rw [e39, e40, e41, e42] at c2
    first
      | exact pr_q hR c1 (qf_jf f1) c2 qf_refl
      | exact pr_q hR c1 (qf_jf f1) c2 (qf_u (by omega))
      | exact pr_q hR c1 (qf_jf f1) c2.choose_spec (qf_u (by omega))
theorem p_times (hZ : St Z) (hR : Rel I J) (c g v : Int32) : Pair Z 70 119 [.ref 0, .int c, .int g, .int v] [.ref 38, .int c, .int g, .int v, .null, .null, .null, .null, .null, .null] I J := by
  obtain ⟨N, T, t, m, r1, r2, r3, r4, r5, r6⟩ := id hR
  have hM := (hm_jf r1 r3 jf_refl).1
  have hno : hasG (nI N) c = false ∨ hasG (nI N) g = false → Pair Z 70 119 [.ref 0, .int c, .int g, .int v] [.ref 38, .int c, .int g, .int v, .null, .null, .null, .null, .null, .null] I J := fun h => pr_q hR (X6_times_no hZ (by rw [r1.2.2.1]; exact h)) qf_refl (X7_times_no hZ hM (by have := r1.1; omega) h) qf_refl
  rcases gg r1.2.1 c with h | ⟨c', hc, rfl⟩
  · exact hno (Or.inl h)
  · rcases gg r1.2.1 g with h | ⟨g', hg, rfl⟩
    · exact hno (Or.inr h)
    · by_cases hv : v < 1 ∨ ¬ v ≤ 64
      · exact pr_q hR (X6_times_out hZ (ho_rh r1) hc hg hv) qf_refl (X7_times_out hZ hM hc hg hv) qf_refl
      · have v1 : ¬ v < 1 := fun z => hv (Or.inl z)
        have v2 : v ≤ 64 := Classical.byContradiction (fun z => hv (Or.inr z))
        obtain ⟨m', hm, rfl⟩ := nI_of2 (M := 64) (n := 64) (by decide) (fun q => v1 (Int32.lt_trans q (by decide))) v2
        have hm1 : 1 ≤ m' := by
          rcases Nat.lt_or_ge m' 1 with q | q
          · exact absurd (nI_lt (a := m') (b := 1) q (by omega)) v1
          · exact q
        obtain ⟨I1, c1, f1⟩ := X6_times (J := J) hZ (ho_rh r1) hc hg v1 v2 (by omega)
        obtain ⟨h0, e39, e40, e41, e42⟩ := hm_jf r1 r3 f1
        obtain ⟨f, l, c2⟩ := X7_times (J := J) hZ h0 (by rw [e42]; exact r1.2.2.2.2.2.2.2.2.2.2.2.1) hc hg hm1 hm
        rw [e39, e40, e41, e42] at c2
        exact pr_q hR c1 (qf_jf f1) c2 (qf_trans (qf_u (by omega)) (qf_u (by omega)))
theorem p_apart (hZ : St Z) (hR : Rel I J) (c a b : Int32) : Pair Z 71 121 [.ref 0, .int c, .int a, .int b] [.ref 38, .int c, .int a, .int b] I J := by
  obtain ⟨N, T, t, m, r1, r2, r3, r4, r5, r6⟩ := id hR
  have hM := (hm_jf r1 r3 jf_refl).1
  have hno : hasG (nI N) c = false ∨ hasG (nI N) a = false ∨ hasG (nI N) b = false → Pair Z 71 121 [.ref 0, .int c, .int a, .int b] [.ref 38, .int c, .int a, .int b] I J := fun h => pr_q hR (X6_apart_no hZ (by rw [r1.2.2.1]; exact h)) qf_refl (X7_apart_no hZ hM (by have := r1.1; omega) h) qf_refl
  rcases gg r1.2.1 c with h | ⟨c', hc, rfl⟩
  · exact hno (Or.inl h)
  · rcases gg r1.2.1 a with h | ⟨a', ha, rfl⟩
    · exact hno (Or.inr (Or.inl h))
    · rcases gg r1.2.1 b with h | ⟨b', hb, rfl⟩
      · exact hno (Or.inr (Or.inr h))
      · obtain ⟨I1, c1, f1⟩ := X6_apart (J := J) hZ (ho_rh r1) hc ha hb
        obtain ⟨h0, e39, e40, e41, e42⟩ := hm_jf r1 r3 f1
        have c2 := X7_apart (J := J) hZ h0 hc ha hb
        rw [e39, e40, e41, e42] at c2
        have e := ap_eq (s := I 5) (k := I 6) (w := I 13 4) (sl := -1) (ho_rh r1).2.2 r1.2.1 r1.2.2.2.2.2.2.2.2.2.2.2.1 hc ha hb
        unfold apN at e
        rw [e] at c2
        exact pr_q hR c1 (qf_jf f1) c2 qf_refl
theorem p_change (hZ : St Z) (hR : Rel I J) (c a b v : Int32) : Pair Z 72 123 [.ref 0, .int c, .int a, .int b, .int v, .null] [.ref 38, .int c, .int a, .int b, .int v, .null, .null, .null, .null, .null, .null] I J := by
  obtain ⟨N, T, t, m, r1, r2, r3, r4, r5, r6⟩ := id hR
  have hM := (hm_jf r1 r3 jf_refl).1
  have hno : hasG (nI N) c = false ∨ hasG (nI N) a = false ∨ hasG (nI N) b = false → Pair Z 72 123 [.ref 0, .int c, .int a, .int b, .int v, .null] [.ref 38, .int c, .int a, .int b, .int v, .null, .null, .null, .null, .null, .null] I J := fun h => pr_q hR (X6_change_no hZ (by rw [r1.2.2.1]; exact h)) qf_refl (X7_change_no hZ hM (by have := r1.1; omega) h) qf_refl
  rcases gg r1.2.1 c with h | ⟨c', hc, rfl⟩
  · exact hno (Or.inl h)
  · rcases gg r1.2.1 a with h | ⟨a', ha, rfl⟩
    · exact hno (Or.inr (Or.inl h))
    · rcases gg r1.2.1 b with h | ⟨b', hb, rfl⟩
      · exact hno (Or.inr (Or.inr h))
      · by_cases hv : v < 0 ∨ ¬ v ≤ 2
        · exact pr_q hR (X6_change_out hZ (ho_rh r1) hc ha hb hv) qf_refl (X7_change_out hZ hM hc ha hb hv) qf_refl
        · have v1 : ¬ v < 0 := fun z => hv (Or.inl z)
          have v2 : v ≤ 2 := Classical.byContradiction (fun z => hv (Or.inr z))
          obtain ⟨I1, c1, f1⟩ := X6_change (J := J) hZ (ho_rh r1) hc ha hb v1 v2
          obtain ⟨h0, e39, e40, e41, e42⟩ := hm_jf r1 r3 f1
          have c2 := X7_change (J := J) hZ h0 hc ha hb v1 v2
          rw [e39, e40, e41, e42, ch_eq (ho_rh r1).2.2 r1.2.1 r1.2.2.2.2.2.2.2.2.2.2.2.1 hc ha hb, ch_ans r1.2.1] at c2
          exact pr_q hR c1 (qf_jf f1) c2 qf_refl
theorem p_over (hZ : St Z) (hR : Rel I J) (c v : Int32) : Pair Z 73 126 [.ref 0, .int c, .int v, .null] [.ref 38, .int c, .int v, .null, .null, .null, .null] I J := by
  obtain ⟨N, T, t, m, r1, r2, r3, r4, r5, r6⟩ := id hR
  have hM := (hm_jf r1 r3 jf_refl).1
  rcases gg r1.2.1 c with h | ⟨c', hc, rfl⟩
  · exact pr_q hR (X6_over_no hZ (by rw [r1.2.2.1]; exact h)) qf_refl (X7_over_no hZ hM (by have := r1.1; omega) h) qf_refl
  · by_cases hv : v < 0 ∨ ¬ v ≤ 1
    · exact pr_q hR (X6_over_out hZ (ho_rh r1) hc hv) qf_refl (X7_over_out hZ hM hc hv) qf_refl
    · have v1 : ¬ v < 0 := fun z => hv (Or.inl z)
      have v2 : v ≤ 1 := Classical.byContradiction (fun z => hv (Or.inr z))
      obtain ⟨I1, c1, f1⟩ := X6_over (J := J) hZ (ho_rh r1) hc v1 v2
      obtain ⟨h0, e39, e40, e41, e42⟩ := hm_jf r1 r3 f1
      obtain ⟨f, c2⟩ := X7_over (J := J) hZ h0 hc v1 v2
      rw [e39, e40, e41, e42, ov_ans r1.2.1] at c2
      exact pr_q hR c1 (qf_jf f1) c2 (qf_u (by omega))
theorem v01 {v : Int32} (v1 : ¬ v < 0) (v2 : v ≤ 1) : v = 0 ∨ v = 1 := by
  obtain ⟨m, hm, rfl⟩ := nI_of2 (M := 1) (n := 1) (by decide) v1 v2
  rcases (by omega : m = 0 ∨ m = 1) with rfl | rfl
  · exact Or.inl rfl
  · exact Or.inr rfl
theorem p_asleep (hZ : St Z) (hR : Rel I J) (c v : Int32) : Pair Z 80 131 [.ref 0, .int c, .int v, .null, .null, .null] [.ref 38, .int c, .int v, .null, .null] I J := by
  obtain ⟨N, T, t, m, r1, r2, r3, r4, r5, r6⟩ := id hR
  have hM := (hm_jf r1 r3 jf_refl).1
  obtain ⟨s1, s2, s3, s4⟩ := id r6
  rcases gg r1.2.1 c with h | ⟨c', hc, rfl⟩
  · exact pr_q hR (X6_asleep_no hZ (by rw [r1.2.2.1]; exact h)) qf_refl (X7_asleep_no hZ hM (by have := r1.1; omega) h) qf_refl
  · by_cases hv : v < 0 ∨ ¬ v ≤ 1
    · exact pr_q hR (X6_asleep_out hZ (ho_rh r1) hc hv) qf_refl (X7_asleep_out hZ hM hc hv) qf_refl
    · have v1 : ¬ v < 0 := fun z => hv (Or.inl z)
      have v2 : v ≤ 1 := Classical.byContradiction (fun z => hv (Or.inr z))
      rcases v01 v1 v2 with rfl | rfl
      · obtain ⟨I1, c1, f1⟩ := X6_asleep_0 (J := J) hZ (ho_rh r1) hc s2 s1
        obtain ⟨h0, e39, e40, e41, e42⟩ := hm_jf r1 r3 f1
        obtain ⟨f, c2⟩ := X7_asleep_0 (J := J) hZ h0 hc (m := m) (by rw [f1 38 (by omega)]; exact s3) s1
        rw [e39, e40, e41, e42, f1 49 (by omega), ← asP_eq s4] at c2
        exact pr_q hR c1 (qf_jf f1) c2 (qf_u (by omega))
      · obtain ⟨I1, c1, f1⟩ := X6_asleep_1 (J := J) hZ (ho_rh r1) hc s2 s1
        obtain ⟨h0, e39, e40, e41, e42⟩ := hm_jf r1 r3 f1
        obtain ⟨f, c2⟩ := X7_asleep_1 (J := J) hZ h0 hc (m := m) (by rw [f1 38 (by omega)]; exact s3) s1
        rw [e39, e40, e41, e42, f1 49 (by omega), ← asB_eq s4] at c2
        exact pr_q hR c1 (qf_jf f1) c2 (qf_u (by omega))
theorem p_odds_0_0 (hZ : St Z) (hR : Rel I J) {N t : Nat} (r1 : RH I N) (r3 : RM I J N t) {c g : Nat} (hc : c < N) (hg : g < N) : Pair Z 74 127 [.ref 0, .int (nI c), .int (nI g), .int 0, .int 0, .null, .null, .null] [.ref 38, .int (nI c), .int (nI g), .int 0, .int 0, .null, .null, .null, .null, .null] I J := by
  obtain ⟨I1, c1, d1, f1⟩ := X6_odds_0_0 (J := J) hZ (ho_rh r1) hc hg
  obtain ⟨h0, e39, e40, e41, e42⟩ := hm_jf r1 r3 f1
  obtain ⟨c2, d2⟩ := X7_odds_0_0 (J := J) hZ h0 hc hg
  rw [e39, e40, e41, e42] at c2 d2
  rcases mw_cases (s := I 5) (k := I 6) (d := I 7) (w := I 13 4) (sl := -1) (ho_rh r1).2.2 r1.2.1 hc hg with ⟨z1, z2⟩ | ⟨n, z1, z2, z3, z4⟩
  · exact pr_q hR (c1 z2) (qf_jf f1) (c2 z1) qf_refl
  · exact pr_q hR (d1 n z1 z3) (qf_jf f1) (d2 n z2 z4) qf_refl
theorem p_odds_0_1 (hZ : St Z) (hR : Rel I J) {N t : Nat} (r1 : RH I N) (r3 : RM I J N t) {c g : Nat} (hc : c < N) (hg : g < N) : Pair Z 74 127 [.ref 0, .int (nI c), .int (nI g), .int 0, .int 1, .null, .null, .null] [.ref 38, .int (nI c), .int (nI g), .int 0, .int 1, .null, .null, .null, .null, .null] I J := by
  obtain ⟨I1, c1, d1, f1⟩ := X6_odds_0_1 (J := J) hZ (ho_rh r1) hc hg
  obtain ⟨h0, e39, e40, e41, e42⟩ := hm_jf r1 r3 f1
  obtain ⟨c2, d2⟩ := X7_odds_0_1 (J := J) hZ h0 hc hg
  rw [e39, e40, e41, e42] at c2 d2
  rcases mw_cases (s := I 5) (k := I 6) (d := I 7) (w := I 13 4) (sl := -1) (ho_rh r1).2.2 r1.2.1 hc hg with ⟨z1, z2⟩ | ⟨n, z1, z2, z3, z4⟩
  · exact pr_q hR (c1 z2) (qf_jf f1) (c2 z1) qf_refl
  · exact pr_q hR (d1 n z1 z3) (qf_jf f1) (d2 n z2 z4) qf_refl
theorem p_odds_1_0 (hZ : St Z) (hR : Rel I J) {N t : Nat} (r1 : RH I N) (r3 : RM I J N t) {c g : Nat} (hc : c < N) (hg : g < N) : Pair Z 74 127 [.ref 0, .int (nI c), .int (nI g), .int 1, .int 0, .null, .null, .null] [.ref 38, .int (nI c), .int (nI g), .int 1, .int 0, .null, .null, .null, .null, .null] I J := by
  obtain ⟨I1, c1, d1, f1⟩ := X6_odds_1_0 (J := J) hZ (ho_rh r1) hc hg
  obtain ⟨h0, e39, e40, e41, e42⟩ := hm_jf r1 r3 f1
  obtain ⟨c2, d2⟩ := X7_odds_1_0 (J := J) hZ h0 hc hg
  rw [e39, e40, e41, e42] at c2 d2
  rcases mw_cases (s := I 5) (k := I 6) (d := I 7) (w := I 13 4) (sl := -1) (ho_rh r1).2.2 r1.2.1 hc hg with ⟨z1, z2⟩ | ⟨n, z1, z2, z3, z4⟩
  · exact pr_q hR (c1 z2) (qf_jf f1) (c2 z1) qf_refl
  · exact pr_q hR (d1 n z1 z3) (qf_jf f1) (d2 n z2 z4) qf_refl
theorem p_odds_1_1 (hZ : St Z) (hR : Rel I J) {N t : Nat} (r1 : RH I N) (r3 : RM I J N t) {c g : Nat} (hc : c < N) (hg : g < N) : Pair Z 74 127 [.ref 0, .int (nI c), .int (nI g), .int 1, .int 1, .null, .null, .null] [.ref 38, .int (nI c), .int (nI g), .int 1, .int 1, .null, .null, .null, .null, .null] I J := by
  obtain ⟨I1, c1, d1, f1⟩ := X6_odds_1_1 (J := J) hZ (ho_rh r1) hc hg
  obtain ⟨h0, e39, e40, e41, e42⟩ := hm_jf r1 r3 f1
  obtain ⟨c2, d2⟩ := X7_odds_1_1 (J := J) hZ h0 hc hg
  rw [e39, e40, e41, e42] at c2 d2
  rcases mw_cases (s := I 5) (k := I 6) (d := I 7) (w := I 13 4) (sl := -1) (ho_rh r1).2.2 r1.2.1 hc hg with ⟨z1, z2⟩ | ⟨n, z1, z2, z3, z4⟩
  · exact pr_q hR (c1 z2) (qf_jf f1) (c2 z1) qf_refl
  · exact pr_q hR (d1 n z1 z3) (qf_jf f1) (d2 n z2 z4) qf_refl
theorem p_odds_2_0 (hZ : St Z) (hR : Rel I J) {N t : Nat} (r1 : RH I N) (r3 : RM I J N t) {c g : Nat} (hc : c < N) (hg : g < N) : Pair Z 74 127 [.ref 0, .int (nI c), .int (nI g), .int 2, .int 0, .null, .null, .null] [.ref 38, .int (nI c), .int (nI g), .int 2, .int 0, .null, .null, .null, .null, .null] I J := by
  obtain ⟨I1, c1, d1, f1⟩ := X6_odds_2_0 (J := J) hZ (ho_rh r1) hc hg
  obtain ⟨h0, e39, e40, e41, e42⟩ := hm_jf r1 r3 f1
  obtain ⟨c2, d2⟩ := X7_odds_2_0 (J := J) hZ h0 hc hg
  rw [e39, e40, e41, e42] at c2 d2
  rcases mw_cases (s := I 5) (k := I 6) (d := I 7) (w := I 13 4) (sl := -1) (ho_rh r1).2.2 r1.2.1 hc hg with ⟨z1, z2⟩ | ⟨n, z1, z2, z3, z4⟩
  · exact pr_q hR (c1 z2) (qf_jf f1) (c2 z1) qf_refl
  · exact pr_q hR (d1 n z1 z3) (qf_jf f1) (d2 n z2 z4) qf_refl
theorem p_odds_2_1 (hZ : St Z) (hR : Rel I J) {N t : Nat} (r1 : RH I N) (r3 : RM I J N t) {c g : Nat} (hc : c < N) (hg : g < N) : Pair Z 74 127 [.ref 0, .int (nI c), .int (nI g), .int 2, .int 1, .null, .null, .null] [.ref 38, .int (nI c), .int (nI g), .int 2, .int 1, .null, .null, .null, .null, .null] I J := by
  obtain ⟨I1, c1, d1, f1⟩ := X6_odds_2_1 (J := J) hZ (ho_rh r1) hc hg
  obtain ⟨h0, e39, e40, e41, e42⟩ := hm_jf r1 r3 f1
  obtain ⟨c2, d2⟩ := X7_odds_2_1 (J := J) hZ h0 hc hg
  rw [e39, e40, e41, e42] at c2 d2
  rcases mw_cases (s := I 5) (k := I 6) (d := I 7) (w := I 13 4) (sl := -1) (ho_rh r1).2.2 r1.2.1 hc hg with ⟨z1, z2⟩ | ⟨n, z1, z2, z3, z4⟩
  · exact pr_q hR (c1 z2) (qf_jf f1) (c2 z1) qf_refl
  · exact pr_q hR (d1 n z1 z3) (qf_jf f1) (d2 n z2 z4) qf_refl
theorem p_odds_3_0 (hZ : St Z) (hR : Rel I J) {N t : Nat} (r1 : RH I N) (r3 : RM I J N t) {c g : Nat} (hc : c < N) (hg : g < N) : Pair Z 74 127 [.ref 0, .int (nI c), .int (nI g), .int 3, .int 0, .null, .null, .null] [.ref 38, .int (nI c), .int (nI g), .int 3, .int 0, .null, .null, .null, .null, .null] I J := by
  obtain ⟨I1, c1, d1, f1⟩ := X6_odds_3_0 (J := J) hZ (ho_rh r1) hc hg
  obtain ⟨h0, e39, e40, e41, e42⟩ := hm_jf r1 r3 f1
  obtain ⟨c2, d2⟩ := X7_odds_3_0 (J := J) hZ h0 hc hg
  rw [e39, e40, e41, e42] at c2 d2
  rcases mw_cases (s := I 5) (k := I 6) (d := I 7) (w := I 13 4) (sl := -1) (ho_rh r1).2.2 r1.2.1 hc hg with ⟨z1, z2⟩ | ⟨n, z1, z2, z3, z4⟩
  · exact pr_q hR (c1 z2) (qf_jf f1) (c2 z1) qf_refl
  · exact pr_q hR (d1 n z1 z3) (qf_jf f1) (d2 n z2 z4) qf_refl
theorem p_odds_3_1 (hZ : St Z) (hR : Rel I J) {N t : Nat} (r1 : RH I N) (r3 : RM I J N t) {c g : Nat} (hc : c < N) (hg : g < N) : Pair Z 74 127 [.ref 0, .int (nI c), .int (nI g), .int 3, .int 1, .null, .null, .null] [.ref 38, .int (nI c), .int (nI g), .int 3, .int 1, .null, .null, .null, .null, .null] I J := by
  obtain ⟨I1, c1, d1, f1⟩ := X6_odds_3_1 (J := J) hZ (ho_rh r1) hc hg
  obtain ⟨h0, e39, e40, e41, e42⟩ := hm_jf r1 r3 f1
  obtain ⟨c2, d2⟩ := X7_odds_3_1 (J := J) hZ h0 hc hg
  rw [e39, e40, e41, e42] at c2 d2
  rcases mw_cases (s := I 5) (k := I 6) (d := I 7) (w := I 13 4) (sl := -1) (ho_rh r1).2.2 r1.2.1 hc hg with ⟨z1, z2⟩ | ⟨n, z1, z2, z3, z4⟩
  · exact pr_q hR (c1 z2) (qf_jf f1) (c2 z1) qf_refl
  · exact pr_q hR (d1 n z1 z3) (qf_jf f1) (d2 n z2 z4) qf_refl
theorem p_odds_4_0 (hZ : St Z) (hR : Rel I J) {N t : Nat} (r1 : RH I N) (r3 : RM I J N t) {c g : Nat} (hc : c < N) (hg : g < N) : Pair Z 74 127 [.ref 0, .int (nI c), .int (nI g), .int 4, .int 0, .null, .null, .null] [.ref 38, .int (nI c), .int (nI g), .int 4, .int 0, .null, .null, .null, .null, .null] I J := by
  obtain ⟨I1, c1, d1, f1⟩ := X6_odds_4_0 (J := J) hZ (ho_rh r1) hc hg
  obtain ⟨h0, e39, e40, e41, e42⟩ := hm_jf r1 r3 f1
  obtain ⟨c2, d2⟩ := X7_odds_4_0 (J := J) hZ h0 hc hg
  rw [e39, e40, e41, e42] at c2 d2
  rcases mw_cases (s := I 5) (k := I 6) (d := I 7) (w := I 13 4) (sl := -1) (ho_rh r1).2.2 r1.2.1 hc hg with ⟨z1, z2⟩ | ⟨n, z1, z2, z3, z4⟩
  · exact pr_q hR (c1 z2) (qf_jf f1) (c2 z1) qf_refl
  · exact pr_q hR (d1 n z1 z3) (qf_jf f1) (d2 n z2 z4) qf_refl
theorem p_odds_4_1 (hZ : St Z) (hR : Rel I J) {N t : Nat} (r1 : RH I N) (r3 : RM I J N t) {c g : Nat} (hc : c < N) (hg : g < N) : Pair Z 74 127 [.ref 0, .int (nI c), .int (nI g), .int 4, .int 1, .null, .null, .null] [.ref 38, .int (nI c), .int (nI g), .int 4, .int 1, .null, .null, .null, .null, .null] I J := by
  obtain ⟨I1, c1, d1, f1⟩ := X6_odds_4_1 (J := J) hZ (ho_rh r1) hc hg
  obtain ⟨h0, e39, e40, e41, e42⟩ := hm_jf r1 r3 f1
  obtain ⟨c2, d2⟩ := X7_odds_4_1 (J := J) hZ h0 hc hg
  rw [e39, e40, e41, e42] at c2 d2
  rcases mw_cases (s := I 5) (k := I 6) (d := I 7) (w := I 13 4) (sl := -1) (ho_rh r1).2.2 r1.2.1 hc hg with ⟨z1, z2⟩ | ⟨n, z1, z2, z3, z4⟩
  · exact pr_q hR (c1 z2) (qf_jf f1) (c2 z1) qf_refl
  · exact pr_q hR (d1 n z1 z3) (qf_jf f1) (d2 n z2 z4) qf_refl
theorem p_odds_5_0 (hZ : St Z) (hR : Rel I J) {N t : Nat} (r1 : RH I N) (r3 : RM I J N t) {c g : Nat} (hc : c < N) (hg : g < N) : Pair Z 74 127 [.ref 0, .int (nI c), .int (nI g), .int 5, .int 0, .null, .null, .null] [.ref 38, .int (nI c), .int (nI g), .int 5, .int 0, .null, .null, .null, .null, .null] I J := by
  obtain ⟨I1, c1, d1, f1⟩ := X6_odds_5_0 (J := J) hZ (ho_rh r1) hc hg
  obtain ⟨h0, e39, e40, e41, e42⟩ := hm_jf r1 r3 f1
  obtain ⟨c2, d2⟩ := X7_odds_5_0 (J := J) hZ h0 hc hg
  rw [e39, e40, e41, e42] at c2 d2
  rcases mw_cases (s := I 5) (k := I 6) (d := I 7) (w := I 13 4) (sl := -1) (ho_rh r1).2.2 r1.2.1 hc hg with ⟨z1, z2⟩ | ⟨n, z1, z2, z3, z4⟩
  · exact pr_q hR (c1 z2) (qf_jf f1) (c2 z1) qf_refl
  · exact pr_q hR (d1 n z1 z3) (qf_jf f1) (d2 n z2 z4) qf_refl
theorem p_odds_5_1 (hZ : St Z) (hR : Rel I J) {N t : Nat} (r1 : RH I N) (r3 : RM I J N t) {c g : Nat} (hc : c < N) (hg : g < N) : Pair Z 74 127 [.ref 0, .int (nI c), .int (nI g), .int 5, .int 1, .null, .null, .null] [.ref 38, .int (nI c), .int (nI g), .int 5, .int 1, .null, .null, .null, .null, .null] I J := by
  obtain ⟨I1, c1, d1, f1⟩ := X6_odds_5_1 (J := J) hZ (ho_rh r1) hc hg
  obtain ⟨h0, e39, e40, e41, e42⟩ := hm_jf r1 r3 f1
  obtain ⟨c2, d2⟩ := X7_odds_5_1 (J := J) hZ h0 hc hg
  rw [e39, e40, e41, e42] at c2 d2
  rcases mw_cases (s := I 5) (k := I 6) (d := I 7) (w := I 13 4) (sl := -1) (ho_rh r1).2.2 r1.2.1 hc hg with ⟨z1, z2⟩ | ⟨n, z1, z2, z3, z4⟩
  · exact pr_q hR (c1 z2) (qf_jf f1) (c2 z1) qf_refl
  · exact pr_q hR (d1 n z1 z3) (qf_jf f1) (d2 n z2 z4) qf_refl
theorem p_odds_6_0 (hZ : St Z) (hR : Rel I J) {N t : Nat} (r1 : RH I N) (r3 : RM I J N t) {c g : Nat} (hc : c < N) (hg : g < N) : Pair Z 74 127 [.ref 0, .int (nI c), .int (nI g), .int 6, .int 0, .null, .null, .null] [.ref 38, .int (nI c), .int (nI g), .int 6, .int 0, .null, .null, .null, .null, .null] I J := by
  obtain ⟨I1, c1, d1, f1⟩ := X6_odds_6_0 (J := J) hZ (ho_rh r1) hc hg
  obtain ⟨h0, e39, e40, e41, e42⟩ := hm_jf r1 r3 f1
  obtain ⟨c2, d2⟩ := X7_odds_6_0 (J := J) hZ h0 hc hg
  rw [e39, e40, e41, e42] at c2 d2
  rcases mw_cases (s := I 5) (k := I 6) (d := I 7) (w := I 13 4) (sl := -1) (ho_rh r1).2.2 r1.2.1 hc hg with ⟨z1, z2⟩ | ⟨n, z1, z2, z3, z4⟩
  · exact pr_q hR (c1 z2) (qf_jf f1) (c2 z1) qf_refl
  · exact pr_q hR (d1 n z1 z3) (qf_jf f1) (d2 n z2 z4) qf_refl
theorem p_odds_6_1 (hZ : St Z) (hR : Rel I J) {N t : Nat} (r1 : RH I N) (r3 : RM I J N t) {c g : Nat} (hc : c < N) (hg : g < N) : Pair Z 74 127 [.ref 0, .int (nI c), .int (nI g), .int 6, .int 1, .null, .null, .null] [.ref 38, .int (nI c), .int (nI g), .int 6, .int 1, .null, .null, .null, .null, .null] I J := by
  obtain ⟨I1, c1, d1, f1⟩ := X6_odds_6_1 (J := J) hZ (ho_rh r1) hc hg
  obtain ⟨h0, e39, e40, e41, e42⟩ := hm_jf r1 r3 f1
  obtain ⟨c2, d2⟩ := X7_odds_6_1 (J := J) hZ h0 hc hg
  rw [e39, e40, e41, e42] at c2 d2
  rcases mw_cases (s := I 5) (k := I 6) (d := I 7) (w := I 13 4) (sl := -1) (ho_rh r1).2.2 r1.2.1 hc hg with ⟨z1, z2⟩ | ⟨n, z1, z2, z3, z4⟩
  · exact pr_q hR (c1 z2) (qf_jf f1) (c2 z1) qf_refl
  · exact pr_q hR (d1 n z1 z3) (qf_jf f1) (d2 n z2 z4) qf_refl
theorem p_odds_7_0 (hZ : St Z) (hR : Rel I J) {N t : Nat} (r1 : RH I N) (r3 : RM I J N t) {c g : Nat} (hc : c < N) (hg : g < N) : Pair Z 74 127 [.ref 0, .int (nI c), .int (nI g), .int 7, .int 0, .null, .null, .null] [.ref 38, .int (nI c), .int (nI g), .int 7, .int 0, .null, .null, .null, .null, .null] I J := by
  obtain ⟨I1, c1, d1, f1⟩ := X6_odds_7_0 (J := J) hZ (ho_rh r1) hc hg
  obtain ⟨h0, e39, e40, e41, e42⟩ := hm_jf r1 r3 f1
  obtain ⟨c2, d2⟩ := X7_odds_7_0 (J := J) hZ h0 hc hg
  rw [e39, e40, e41, e42] at c2 d2
  rcases mw_cases (s := I 5) (k := I 6) (d := I 7) (w := I 13 4) (sl := -1) (ho_rh r1).2.2 r1.2.1 hc hg with ⟨z1, z2⟩ | ⟨n, z1, z2, z3, z4⟩
  · exact pr_q hR (c1 z2) (qf_jf f1) (c2 z1) qf_refl
  · exact pr_q hR (d1 n z1 z3) (qf_jf f1) (d2 n z2 z4) qf_refl
theorem p_odds_7_1 (hZ : St Z) (hR : Rel I J) {N t : Nat} (r1 : RH I N) (r3 : RM I J N t) {c g : Nat} (hc : c < N) (hg : g < N) : Pair Z 74 127 [.ref 0, .int (nI c), .int (nI g), .int 7, .int 1, .null, .null, .null] [.ref 38, .int (nI c), .int (nI g), .int 7, .int 1, .null, .null, .null, .null, .null] I J := by
  obtain ⟨I1, c1, d1, f1⟩ := X6_odds_7_1 (J := J) hZ (ho_rh r1) hc hg
  obtain ⟨h0, e39, e40, e41, e42⟩ := hm_jf r1 r3 f1
  obtain ⟨c2, d2⟩ := X7_odds_7_1 (J := J) hZ h0 hc hg
  rw [e39, e40, e41, e42] at c2 d2
  rcases mw_cases (s := I 5) (k := I 6) (d := I 7) (w := I 13 4) (sl := -1) (ho_rh r1).2.2 r1.2.1 hc hg with ⟨z1, z2⟩ | ⟨n, z1, z2, z3, z4⟩
  · exact pr_q hR (c1 z2) (qf_jf f1) (c2 z1) qf_refl
  · exact pr_q hR (d1 n z1 z3) (qf_jf f1) (d2 n z2 z4) qf_refl
theorem p_odds_8_0 (hZ : St Z) (hR : Rel I J) {N t : Nat} (r1 : RH I N) (r3 : RM I J N t) {c g : Nat} (hc : c < N) (hg : g < N) : Pair Z 74 127 [.ref 0, .int (nI c), .int (nI g), .int 8, .int 0, .null, .null, .null] [.ref 38, .int (nI c), .int (nI g), .int 8, .int 0, .null, .null, .null, .null, .null] I J := by
  obtain ⟨I1, c1, d1, f1⟩ := X6_odds_8_0 (J := J) hZ (ho_rh r1) hc hg
  obtain ⟨h0, e39, e40, e41, e42⟩ := hm_jf r1 r3 f1
  obtain ⟨c2, d2⟩ := X7_odds_8_0 (J := J) hZ h0 hc hg
  rw [e39, e40, e41, e42] at c2 d2
  rcases mw_cases (s := I 5) (k := I 6) (d := I 7) (w := I 13 4) (sl := -1) (ho_rh r1).2.2 r1.2.1 hc hg with ⟨z1, z2⟩ | ⟨n, z1, z2, z3, z4⟩
  · exact pr_q hR (c1 z2) (qf_jf f1) (c2 z1) qf_refl
  · exact pr_q hR (d1 n z1 z3) (qf_jf f1) (d2 n z2 z4) qf_refl
theorem p_odds_8_1 (hZ : St Z) (hR : Rel I J) {N t : Nat} (r1 : RH I N) (r3 : RM I J N t) {c g : Nat} (hc : c < N) (hg : g < N) : Pair Z 74 127 [.ref 0, .int (nI c), .int (nI g), .int 8, .int 1, .null, .null, .null] [.ref 38, .int (nI c), .int (nI g), .int 8, .int 1, .null, .null, .null, .null, .null] I J := by
  obtain ⟨I1, c1, d1, f1⟩ := X6_odds_8_1 (J := J) hZ (ho_rh r1) hc hg
  obtain ⟨h0, e39, e40, e41, e42⟩ := hm_jf r1 r3 f1
  obtain ⟨c2, d2⟩ := X7_odds_8_1 (J := J) hZ h0 hc hg
  rw [e39, e40, e41, e42] at c2 d2
  rcases mw_cases (s := I 5) (k := I 6) (d := I 7) (w := I 13 4) (sl := -1) (ho_rh r1).2.2 r1.2.1 hc hg with ⟨z1, z2⟩ | ⟨n, z1, z2, z3, z4⟩
  · exact pr_q hR (c1 z2) (qf_jf f1) (c2 z1) qf_refl
  · exact pr_q hR (d1 n z1 z3) (qf_jf f1) (d2 n z2 z4) qf_refl
theorem p_odds_9_0 (hZ : St Z) (hR : Rel I J) {N t : Nat} (r1 : RH I N) (r3 : RM I J N t) {c g : Nat} (hc : c < N) (hg : g < N) : Pair Z 74 127 [.ref 0, .int (nI c), .int (nI g), .int 9, .int 0, .null, .null, .null] [.ref 38, .int (nI c), .int (nI g), .int 9, .int 0, .null, .null, .null, .null, .null] I J := by
  obtain ⟨I1, c1, d1, f1⟩ := X6_odds_9_0 (J := J) hZ (ho_rh r1) hc hg
  obtain ⟨h0, e39, e40, e41, e42⟩ := hm_jf r1 r3 f1
  obtain ⟨c2, d2⟩ := X7_odds_9_0 (J := J) hZ h0 hc hg
  rw [e39, e40, e41, e42] at c2 d2
  rcases mw_cases (s := I 5) (k := I 6) (d := I 7) (w := I 13 4) (sl := -1) (ho_rh r1).2.2 r1.2.1 hc hg with ⟨z1, z2⟩ | ⟨n, z1, z2, z3, z4⟩
  · exact pr_q hR (c1 z2) (qf_jf f1) (c2 z1) qf_refl
  · exact pr_q hR (d1 n z1 z3) (qf_jf f1) (d2 n z2 z4) qf_refl
theorem p_odds_9_1 (hZ : St Z) (hR : Rel I J) {N t : Nat} (r1 : RH I N) (r3 : RM I J N t) {c g : Nat} (hc : c < N) (hg : g < N) : Pair Z 74 127 [.ref 0, .int (nI c), .int (nI g), .int 9, .int 1, .null, .null, .null] [.ref 38, .int (nI c), .int (nI g), .int 9, .int 1, .null, .null, .null, .null, .null] I J := by
  obtain ⟨I1, c1, d1, f1⟩ := X6_odds_9_1 (J := J) hZ (ho_rh r1) hc hg
  obtain ⟨h0, e39, e40, e41, e42⟩ := hm_jf r1 r3 f1
  obtain ⟨c2, d2⟩ := X7_odds_9_1 (J := J) hZ h0 hc hg
  rw [e39, e40, e41, e42] at c2 d2
  rcases mw_cases (s := I 5) (k := I 6) (d := I 7) (w := I 13 4) (sl := -1) (ho_rh r1).2.2 r1.2.1 hc hg with ⟨z1, z2⟩ | ⟨n, z1, z2, z3, z4⟩
  · exact pr_q hR (c1 z2) (qf_jf f1) (c2 z1) qf_refl
  · exact pr_q hR (d1 n z1 z3) (qf_jf f1) (d2 n z2 z4) qf_refl
theorem p_odds_10_0 (hZ : St Z) (hR : Rel I J) {N t : Nat} (r1 : RH I N) (r3 : RM I J N t) {c g : Nat} (hc : c < N) (hg : g < N) : Pair Z 74 127 [.ref 0, .int (nI c), .int (nI g), .int 10, .int 0, .null, .null, .null] [.ref 38, .int (nI c), .int (nI g), .int 10, .int 0, .null, .null, .null, .null, .null] I J := by
  obtain ⟨I1, c1, d1, f1⟩ := X6_odds_10_0 (J := J) hZ (ho_rh r1) hc hg
  obtain ⟨h0, e39, e40, e41, e42⟩ := hm_jf r1 r3 f1
  obtain ⟨c2, d2⟩ := X7_odds_10_0 (J := J) hZ h0 hc hg
  rw [e39, e40, e41, e42] at c2 d2
  rcases mw_cases (s := I 5) (k := I 6) (d := I 7) (w := I 13 4) (sl := -1) (ho_rh r1).2.2 r1.2.1 hc hg with ⟨z1, z2⟩ | ⟨n, z1, z2, z3, z4⟩
  · exact pr_q hR (c1 z2) (qf_jf f1) (c2 z1) qf_refl
  · exact pr_q hR (d1 n z1 z3) (qf_jf f1) (d2 n z2 z4) qf_refl
theorem p_odds_10_1 (hZ : St Z) (hR : Rel I J) {N t : Nat} (r1 : RH I N) (r3 : RM I J N t) {c g : Nat} (hc : c < N) (hg : g < N) : Pair Z 74 127 [.ref 0, .int (nI c), .int (nI g), .int 10, .int 1, .null, .null, .null] [.ref 38, .int (nI c), .int (nI g), .int 10, .int 1, .null, .null, .null, .null, .null] I J := by
  obtain ⟨I1, c1, d1, f1⟩ := X6_odds_10_1 (J := J) hZ (ho_rh r1) hc hg
  obtain ⟨h0, e39, e40, e41, e42⟩ := hm_jf r1 r3 f1
  obtain ⟨c2, d2⟩ := X7_odds_10_1 (J := J) hZ h0 hc hg
  rw [e39, e40, e41, e42] at c2 d2
  rcases mw_cases (s := I 5) (k := I 6) (d := I 7) (w := I 13 4) (sl := -1) (ho_rh r1).2.2 r1.2.1 hc hg with ⟨z1, z2⟩ | ⟨n, z1, z2, z3, z4⟩
  · exact pr_q hR (c1 z2) (qf_jf f1) (c2 z1) qf_refl
  · exact pr_q hR (d1 n z1 z3) (qf_jf f1) (d2 n z2 z4) qf_refl
theorem p_odds (hZ : St Z) (hR : Rel I J) (c g p b : Int32) : Pair Z 74 127 [.ref 0, .int c, .int g, .int p, .int b, .null, .null, .null] [.ref 38, .int c, .int g, .int p, .int b, .null, .null, .null, .null, .null] I J := by
  obtain ⟨N, T, t, m, r1, r2, r3, r4, r5, r6⟩ := id hR
  have hM := (hm_jf r1 r3 jf_refl).1
  have hno : hasG (nI N) c = false ∨ hasG (nI N) g = false → Pair Z 74 127 [.ref 0, .int c, .int g, .int p, .int b, .null, .null, .null] [.ref 38, .int c, .int g, .int p, .int b, .null, .null, .null, .null, .null] I J := fun h => pr_q hR (X6_odds_no hZ (by rw [r1.2.2.1]; exact h)) qf_refl (X7_odds_no hZ hM (by have := r1.1; omega) h) qf_refl
  rcases gg r1.2.1 c with h | ⟨c', hc, rfl⟩
  · exact hno (Or.inl h)
  · rcases gg r1.2.1 g with h | ⟨g', hg, rfl⟩
    · exact hno (Or.inr h)
    · by_cases hv : p < 0 ∨ 10 < p ∨ b < 0 ∨ ¬ b ≤ 1
      · exact pr_q hR (X6_odds_out hZ (ho_rh r1) hc hg hv) qf_refl (X7_odds_out hZ hM hc hg hv) qf_refl
      · have v1 : ¬ p < 0 := fun z => hv (Or.inl z)
        have v2 : p ≤ 10 := Int32.not_lt.mp (fun z => hv (Or.inr (Or.inl z)))
        have v3 : ¬ b < 0 := fun z => hv (Or.inr (Or.inr (Or.inl z)))
        have v4 : b ≤ 1 := Classical.byContradiction (fun z => hv (Or.inr (Or.inr (Or.inr z))))
        obtain ⟨p', hp, rfl⟩ := nI_of2 (M := 10) (n := 10) (by decide) v1 v2
        have hb := v01 v3 v4
        match p', hp with
        | 0, _ =>
          rcases hb with rfl | rfl
          · exact p_odds_0_0 hZ hR r1 r3 hc hg
          · exact p_odds_0_1 hZ hR r1 r3 hc hg
        | 1, _ =>
          rcases hb with rfl | rfl
          · exact p_odds_1_0 hZ hR r1 r3 hc hg
          · exact p_odds_1_1 hZ hR r1 r3 hc hg
        | 2, _ =>
          rcases hb with rfl | rfl
          · exact p_odds_2_0 hZ hR r1 r3 hc hg
          · exact p_odds_2_1 hZ hR r1 r3 hc hg
        | 3, _ =>
          rcases hb with rfl | rfl
          · exact p_odds_3_0 hZ hR r1 r3 hc hg
          · exact p_odds_3_1 hZ hR r1 r3 hc hg
        | 4, _ =>
          rcases hb with rfl | rfl
          · exact p_odds_4_0 hZ hR r1 r3 hc hg
          · exact p_odds_4_1 hZ hR r1 r3 hc hg
        | 5, _ =>
          rcases hb with rfl | rfl
          · exact p_odds_5_0 hZ hR r1 r3 hc hg
          · exact p_odds_5_1 hZ hR r1 r3 hc hg
        | 6, _ =>
          rcases hb with rfl | rfl
          · exact p_odds_6_0 hZ hR r1 r3 hc hg
          · exact p_odds_6_1 hZ hR r1 r3 hc hg
        | 7, _ =>
          rcases hb with rfl | rfl
          · exact p_odds_7_0 hZ hR r1 r3 hc hg
          · exact p_odds_7_1 hZ hR r1 r3 hc hg
        | 8, _ =>
          rcases hb with rfl | rfl
          · exact p_odds_8_0 hZ hR r1 r3 hc hg
          · exact p_odds_8_1 hZ hR r1 r3 hc hg
        | 9, _ =>
          rcases hb with rfl | rfl
          · exact p_odds_9_0 hZ hR r1 r3 hc hg
          · exact p_odds_9_1 hZ hR r1 r3 hc hg
        | 10, _ =>
          rcases hb with rfl | rfl
          · exact p_odds_10_0 hZ hR r1 r3 hc hg
          · exact p_odds_10_1 hZ hR r1 r3 hc hg
        | n + 11, z => exact absurd z (by omega)
end
