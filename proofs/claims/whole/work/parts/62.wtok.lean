/-! the reference's tokens are the class's words and numbers -/
section
variable {t : Nat → Int32} {T : Nat}
theorem rn_all {p : Int32 → Bool} (f : Nat) : ∀ i j, i ≤ j → j < rn p t T f i → p (t j) = true := by
  induction f with
  | zero => intro i j h1 h2; rw [rn] at h2; omega
  | succ f ih =>
    intro i j h1 h2
    rw [rn] at h2
    by_cases q : i < T ∧ p (t i) = true
    · rw [if_pos q] at h2
      by_cases e : j = i
      · rw [e]; exact q.2
      · exact ih (i + 1) j (by omega) h2
    · rw [if_neg q] at h2
      omega
theorem vl_lt {s : Nat} (n : Nat) : (∀ i, i < n → isL (t (s + i)) = true) → vlN t s n < 27 ^ n := by
  induction n with
  | zero => intro _; rw [vlN]; decide
  | succ n ih =>
    intro h
    have h1 := ih (fun i hi => h i (by omega))
    obtain ⟨b, h2, h3, e⟩ := isL_ex (h n (by omega))
    rw [vlN, e, nI_clamp (by omega), Nat.pow_succ]
    omega
theorem vl_inj {t' : Nat → Int32} {s s' : Nat} (n : Nat) : ∀ m, (∀ i, i < n → isL (t (s + i)) = true) → (∀ i, i < m → isL (t' (s' + i)) = true) → vlN t s n = vlN t' s' m → n = m ∧ ∀ i, i < n → t (s + i) = t' (s' + i) := by
  induction n with
  | zero =>
    intro m _ h2 e
    cases m with
    | zero => exact ⟨rfl, fun i hi => absurd hi (by omega)⟩
    | succ m =>
      obtain ⟨b, q1, q2, eb⟩ := isL_ex (h2 m (by omega))
      rw [vlN, vlN, eb, nI_clamp (by omega)] at e
      omega
  | succ n ih =>
    intro m h1 h2 e
    obtain ⟨a, p1, p2, ea⟩ := isL_ex (h1 n (by omega))
    cases m with
    | zero =>
      rw [vlN, vlN, ea, nI_clamp (by omega)] at e
      omega
    | succ m =>
      obtain ⟨b, q1, q2, eb⟩ := isL_ex (h2 m (by omega))
      rw [vlN, vlN, ea, eb, nI_clamp (by omega), nI_clamp (by omega)] at e
      obtain ⟨r1, r2⟩ := ih m (fun i hi => h1 i (by omega)) (fun i hi => h2 i (by omega)) (by omega)
      refine ⟨by omega, fun i hi => ?_⟩
      by_cases ei : i = n
      · subst ei
        rw [ea, r1, eb]
        congr 1
        omega
      · exact r2 i (by omega)
/-- the words as numbers -/
def wW (k : Nat) : Nat := [36250510761, 4351177, 778955, 8740238, 82410, 279109042, 1776129921, 1834209, 4786, 3554408].getD k 0
theorem wW_vl : ∀ k, k < 10 → vlN (wb k) 0 (wl k) = wW k ∧ wW k < 2 ^ 63 := by decide +kernel
theorem wb_L : ∀ k, k < 10 → ∀ j, j < wl k → isL (wb k j) = true := by decide +kernel
theorem wW_neg : ∀ k, k < 10 → ¬ (-1 : Int64) = Int64.ofNat (wW k) ∧ ¬ (-2 : Int64) = Int64.ofNat (wW k) ∧ ¬ (-3 : Int64) = Int64.ofNat (wW k) ∧ ¬ (-4 : Int64) = Int64.ofNat (wW k) := by decide +kernel
theorem ofN_inj {a b : Nat} (ha : a < 2 ^ 63) (hb : b < 2 ^ 63) (h : Int64.ofNat a = Int64.ofNat b) : a = b := by
  have := congrArg Int64.toInt h
  rw [Int64.toInt_ofNat_of_lt ha, Int64.toInt_ofNat_of_lt hb] at this
  omega
theorem ofN_m1 {a : Nat} (ha : a < 2 ^ 63) : ¬ Int64.ofNat a = -1 := fun h => by
  have := congrArg Int64.toInt h
  rw [Int64.toInt_ofNat_of_lt ha, show (-1 : Int64).toInt = -1 from rfl] at this
  omega
theorem isW_iff {s e k : Nat} : isW t T s e k = true ↔ e - s = wl k ∧ ∀ j, j < wl k → byN t T (s + j) = wb k j := by
  unfold isW
  rw [Bool.and_eq_true, decide_eq_true_eq, alB_iff]
  constructor
  · intro ⟨h1, h2⟩
    exact ⟨h1, fun j hj => of_decide_eq_true (h2 j (by omega) (by omega))⟩
  · intro ⟨h1, h2⟩
    exact ⟨h1, fun j _ hj => decide_eq_true (h2 j (by omega))⟩
theorem tkE_le {s : Nat} (hs : s ≤ T) : s ≤ tkE t T s ∧ tkE t T s ≤ T := by
  have h3 := rn_le (p := isL) (t := t) (T := T) (T - s) s hs
  have h4 := rn_le (p := isD) (t := t) (T := T) (T - s) s hs
  unfold tkE
  split
  · exact h3
  · split
    · exact h4
    · split <;> omega
theorem tkL_all {s : Nat} (q1 : s < T) (q2 : isL (t s) = true) : ∀ i, i < tkE t T s - s → isL (t (s + i)) = true := by
  have hE : tkE t T s = rn isL t T (T - s) s := by unfold tkE; rw [by_lt q1, if_pos q2]
  intro i hi
  rw [hE] at hi
  exact rn_all (T := T) (T - s) s (s + i) (by omega) (by omega)
theorem tk_w {s k : Nat} (hs : s ≤ T) (hk : k < 10) : tkT t T s = Int64.ofNat (wW k) ↔ isW t T s (tkE t T s) k = true := by
  obtain ⟨l1, l2⟩ := wl_le k hk
  obtain ⟨n1, n2, n3, n4⟩ := wW_neg k hk
  obtain ⟨v1, v2⟩ := wW_vl k hk
  obtain ⟨e1, e2⟩ := tkE_le (t := t) hs
  rw [isW_iff]
  unfold tkT
  have no : ¬ isL (byN t T s) = true → ¬ (tkE t T s - s = wl k ∧ ∀ j, j < wl k → byN t T (s + j) = wb k j) := fun q z => by
    have h1 := z.2 0 (by omega)
    rw [Nat.add_zero] at h1
    rw [h1] at q
    exact q (wb_L k hk 0 (by omega))
  by_cases q1 : s < T
  · rw [if_pos q1]
    rw [by_lt q1] at no
    by_cases q2 : isL (t s) = true
    · rw [if_pos q2]
      have hall := tkL_all q1 q2
      unfold tokL
      by_cases q3 : tkE t T s - s ≤ 9
      · rw [if_pos q3]
        have hlt := vl_lt _ hall
        have hp : 27 ^ (tkE t T s - s) ≤ 27 ^ 9 := Nat.pow_le_pow_right (by omega) q3
        constructor
        · intro h
          have h2 := ofN_inj (by omega) v2 h
          rw [← v1] at h2
          obtain ⟨r1, r2⟩ := vl_inj _ _ hall (fun i hi => by rw [Nat.zero_add]; exact wb_L k hk i hi) h2
          refine ⟨r1, fun j hj => ?_⟩
          rw [by_lt (by omega), r2 j (by omega), Nat.zero_add]
        · intro ⟨h1, h2⟩
          rw [← v1, ← h1]
          congr 1
          have : ∀ n, n ≤ wl k → vlN t s n = vlN (wb k) 0 n := by
            intro n
            induction n with
            | zero => intro _; rw [vlN, vlN]
            | succ n ih =>
              intro hn
              have h3 := h2 n (by omega)
              rw [by_lt (by omega)] at h3
              rw [vlN, vlN, ih (by omega), h3, Nat.zero_add]
          exact this _ (by omega)
      · rw [if_neg q3]
        constructor
        · intro h; exact absurd h n4
        · intro ⟨h1, _⟩; omega
    · rw [if_neg q2]
      have hno := no q2
      by_cases q3 : isD (t s) = true
      · rw [if_pos q3]
        by_cases q4 : tkE t T s - s ≤ 2
        · rw [if_pos q4]; exact ⟨fun h => absurd h n1, fun h => absurd h hno⟩
        · rw [if_neg q4]; exact ⟨fun h => absurd h n4, fun h => absurd h hno⟩
      · rw [if_neg q3]
        by_cases q4 : t s = 59
        · rw [if_pos q4]; exact ⟨fun h => absurd h n3, fun h => absurd h hno⟩
        · rw [if_neg q4]; exact ⟨fun h => absurd h n4, fun h => absurd h hno⟩
  · rw [if_neg q1]
    have eb : byN t T s = -1 := if_neg q1
    rw [eb] at no
    exact ⟨fun h => absurd h n2, fun h => absurd h (no (by decide))⟩
theorem tk_wd {s : Nat} (hs : s ≤ T) : (wdN t T s (tkE t T s) < 10 ∧ tkT t T s = Int64.ofNat (wW (wdN t T s (tkE t T s)))) ∨ (wdN t T s (tkE t T s) = 10 ∧ ∀ k, k < 10 → ¬ tkT t T s = Int64.ofNat (wW k)) := by
  rcases wdG_spec (p := isW t T s (tkE t T s)) 10 0 rfl with ⟨h1, h2⟩ | ⟨h1, h2⟩
  · right
    refine ⟨h1, fun k hk q => ?_⟩
    have h3 := h2 k (by omega) hk
    rw [(tk_w hs hk).mp q] at h3
    exact absurd h3 (by decide)
  · left
    exact ⟨h1, (tk_w hs h1).mpr h2⟩
theorem nv_eq {s : Nat} : ∀ n, n ≤ 2 → nvR t s n = nvI t s n := by
  intro n
  induction n with
  | zero => intro _; rw [nvR, nvI]
  | succ n ih =>
    intro hn
    rw [nvR, nvI, if_pos (by omega), ih (by omega), Int32.mul_comm]
theorem tk_num {s : Nat} (hs : s ≤ T) : (tkT t T s = -1 ∧ isD (byN t T s) = true ∧ tkE t T s - s ≤ 2 ∧ tkV t T s = nvI t s (tkE t T s - s)) ∨ (¬ tkT t T s = -1 ∧ ¬ (isD (byN t T s) = true ∧ tkE t T s - s ≤ 2)) := by
  unfold tkT tkV
  by_cases q1 : s < T
  · rw [if_pos q1, if_pos q1, by_lt q1]
    by_cases q2 : isL (t s) = true
    · rw [if_pos q2]
      right
      obtain ⟨b, p1, p2, ea⟩ := isL_ex q2
      refine ⟨?_, fun z => ?_⟩
      · unfold tokL
        by_cases q3 : tkE t T s - s ≤ 9
        · rw [if_pos q3]
          have hlt := vl_lt _ (tkL_all q1 q2)
          have hp : 27 ^ (tkE t T s - s) ≤ 27 ^ 9 := Nat.pow_le_pow_right (by omega) q3
          exact ofN_m1 (by omega)
        · rw [if_neg q3]; decide
      · have z1 := z.1
        rw [ea] at z1
        unfold isD at z1
        simp only [Bool.and_eq_true, decide_eq_true_eq] at z1
        have z2 := z1.2
        rw [show (57 : Int32) = nI 57 from rfl, nI_le_iff (by omega) (by omega)] at z2
        omega
    · rw [if_neg q2, if_neg q2]
      by_cases q3 : isD (t s) = true
      · rw [if_pos q3, if_pos q3]
        by_cases q4 : tkE t T s - s ≤ 2
        · left; rw [if_pos q4]; exact ⟨rfl, q3, q4, nv_eq _ q4⟩
        · right; rw [if_neg q4]; exact ⟨by decide, fun z => q4 z.2⟩
      · rw [if_neg q3]
        right
        refine ⟨?_, fun z => q3 z.1⟩
        by_cases q4 : t s = 59
        · rw [if_pos q4]; decide
        · rw [if_neg q4]; decide
  · rw [if_neg q1]
    right
    have eb : byN t T s = -1 := if_neg q1
    rw [eb]
    exact ⟨by decide, fun z => absurd z.1 (by decide)⟩
/-- between lines -/
theorem tk_sep {s : Nat} (hs : s ≤ T) : (tkT t T s = -2 ↔ s = T) ∧ (tkT t T s = -3 ↔ s < T ∧ t s = 59) := by
  have h59 : ∀ x : Int32, x = 59 → isL x = false ∧ isD x = false := fun x e => by subst e; decide
  unfold tkT
  by_cases q1 : s < T
  · rw [if_pos q1]
    have n1 : ¬ s = T := by omega
    by_cases q2 : isL (t s) = true
    · rw [if_pos q2]
      have hno : ¬ (s < T ∧ t s = 59) := fun z => by rw [(h59 _ z.2).1] at q2; exact absurd q2 (by decide)
      have key : ¬ tokL t s (tkE t T s - s) = -2 ∧ ¬ tokL t s (tkE t T s - s) = -3 := by
        unfold tokL
        by_cases q3 : tkE t T s - s ≤ 9
        · rw [if_pos q3]
          have hlt := vl_lt _ (tkL_all q1 q2)
          have hp : 27 ^ (tkE t T s - s) ≤ 27 ^ 9 := Nat.pow_le_pow_right (by omega) q3
          refine ⟨fun h => ?_, fun h => ?_⟩
          · have := congrArg Int64.toInt h
            rw [Int64.toInt_ofNat_of_lt (by omega), show (-2 : Int64).toInt = -2 from rfl] at this
            omega
          · have := congrArg Int64.toInt h
            rw [Int64.toInt_ofNat_of_lt (by omega), show (-3 : Int64).toInt = -3 from rfl] at this
            omega
        · rw [if_neg q3]; decide
      exact ⟨⟨fun h => absurd h key.1, fun h => absurd h n1⟩, ⟨fun h => absurd h key.2, fun h => absurd h hno⟩⟩
    · rw [if_neg q2]
      by_cases q3 : isD (t s) = true
      · rw [if_pos q3]
        have hno : ¬ (s < T ∧ t s = 59) := fun z => by rw [(h59 _ z.2).2] at q3; exact absurd q3 (by decide)
        by_cases q4 : tkE t T s - s ≤ 2
        · rw [if_pos q4]; exact ⟨⟨fun h => absurd h (by decide), fun h => absurd h n1⟩, ⟨fun h => absurd h (by decide), fun h => absurd h hno⟩⟩
        · rw [if_neg q4]; exact ⟨⟨fun h => absurd h (by decide), fun h => absurd h n1⟩, ⟨fun h => absurd h (by decide), fun h => absurd h hno⟩⟩
      · rw [if_neg q3]
        by_cases q4 : t s = 59
        · rw [if_pos q4]; exact ⟨⟨fun h => absurd h (by decide), fun h => absurd h n1⟩, ⟨fun _ => ⟨q1, q4⟩, fun _ => rfl⟩⟩
        · rw [if_neg q4]; exact ⟨⟨fun h => absurd h (by decide), fun h => absurd h n1⟩, ⟨fun h => absurd h (by decide), fun h => absurd h.2 q4⟩⟩
  · rw [if_neg q1]
    exact ⟨⟨fun _ => by omega, fun _ => rfl⟩, ⟨fun h => absurd h (by decide), fun h => absurd h.1 q1⟩⟩
end
