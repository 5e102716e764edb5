/-! the two sides' states -/
section
variable {Z : gZ} {I : gI} {J : gJ}
/-- what is to come: forty-one minutes on at most, and of gongs that there are -/
def cB (N : Nat) (co : Nat → Int64) : Prop := ∀ j, j < 10 → (∃ v, v < 2 ^ 42 ∧ co j = Int64.ofNat v) ∧ (N ≤ j → co j = 0)
def sB (N : Nat) (st : Nat → Int32) : Prop := ∀ j, j < 10 → N ≤ j → st j = 0
/-- a morning as it may be -/
def mO (k o : Nat → Int32) (co : Nat → Int64) (st : Nat → Int32) (N t : Nat) : Prop := okO k o ∧ cB N co ∧ sB N st ∧ t ≤ 99999
def Kn (k : Nat → Int32) : Prop := ∀ j, j < 10 → k j = 0 ∨ k j = 1 ∨ k j = 2 ∨ k j = 3
def RH (I : gI) (N : Nat) : Prop := 2 ≤ N ∧ N ≤ 10 ∧ I 3 4 = nI N ∧ I 38 0 = nI N ∧ I 38 6 = I 3 5 ∧ I 39 = I 4 ∧ I 40 = I 5 ∧ I 41 = I 6 ∧ I 42 = I 7 ∧ Hw (I 4) N ∧ Kn (I 6) ∧ Dl (I 7) ∧ I 38 27 = -1
def RT (I : gI) (T : Nat) : Prop := T ≤ 200 ∧ I 1 1 = nI T ∧ I 38 7 = nI T ∧ I 43 = I 2
def RM (I : gI) (J : gJ) (N t : Nat) : Prop := I 13 3 = nI t ∧ I 38 21 = nI t ∧ I 38 5 = I 13 4 ∧ J 45 = J 14 ∧ I 46 = I 15 ∧ I 38 20 = bitsOf (ob (I 16)) 10 ∧ mO (I 6) (I 16) (J 14) (I 15) N t
def RK0 (I : gI) (J : gJ) (N : Nat) : Prop := gB01 (I 26 0) = true ∧ I 48 0 = I 26 0 ∧ (∀ j, j < 10 → gB01 (I 21 j) = true) ∧ (¬ I 26 0 = 0 → ∃ t, I 18 3 = nI t ∧ J 47 (0 + 21) = (I 18 3).toInt64 ∧ J 47 (0 + 22) = (I 18 4).toInt64 ∧ J 47 (0 + 20) = (bitsOf (ob (I 21)) 10).toInt64 ∧ (∀ g, g < 10 → J 47 (0 + g) = J 19 g ∧ J 47 (0 + 10 + g) = (I 20 g).toInt64) ∧ mO (I 6) (I 21) (J 19) (I 20) N t)
def RK1 (I : gI) (J : gJ) (N : Nat) : Prop := gB01 (I 26 1) = true ∧ I 48 1 = I 26 1 ∧ (∀ j, j < 10 → gB01 (I 25 j) = true) ∧ (¬ I 26 1 = 0 → ∃ t, I 22 3 = nI t ∧ J 47 (23 + 21) = (I 22 3).toInt64 ∧ J 47 (23 + 22) = (I 22 4).toInt64 ∧ J 47 (23 + 20) = (bitsOf (ob (I 25)) 10).toInt64 ∧ (∀ g, g < 10 → J 47 (23 + g) = J 23 g ∧ J 47 (23 + 10 + g) = (I 24 g).toInt64) ∧ mO (I 6) (I 25) (J 23) (I 24) N t)
def RS (I : gI) (m : Nat) : Prop := m ≤ 8 ∧ I 27 2 = nI m ∧ I 38 24 = nI m ∧ Sg (I 28) (I 29) (I 49) m
def Rel (I : gI) (J : gJ) : Prop := ∃ N T t m, RH I N ∧ RT I T ∧ RM I J N t ∧ RK0 I J N ∧ RK1 I J N ∧ RS I m
/-- what a call that only asks may touch -/
def QF (I I' : gI) (J J' : gJ) : Prop := (∀ a, a ≠ 1 → a ≠ 38 → (a < 8 ∨ 12 < a) → (a < 30 ∨ 37 < a) → a ≠ 44 → (a < 50 ∨ 52 < a) → I' a = I a) ∧ I' 1 1 = I 1 1 ∧ (∀ k, (k < 9 ∨ 16 < k) → I' 38 k = I 38 k) ∧ (∀ a, a ≠ 38 → J' a = J a)
theorem qf_refl : QF I I J J := ⟨fun _ _ _ _ _ _ _ => rfl, rfl, fun _ _ => rfl, fun _ _ => rfl⟩
theorem qf_trans {I1 I2 I3 : gI} {J1 J2 J3 : gJ} (h1 : QF I1 I2 J1 J2) (h2 : QF I2 I3 J2 J3) : QF I1 I3 J1 J3 := ⟨fun a q1 q2 q3 q4 q5 q6 => (h2.1 a q1 q2 q3 q4 q5 q6).trans (h1.1 a q1 q2 q3 q4 q5 q6), h2.2.1.trans h1.2.1, fun k q => (h2.2.2.1 k q).trans (h1.2.2.1 k q), fun a q => (h2.2.2.2 a q).trans (h1.2.2.2 a q)⟩
theorem qf_jf {I' : gI} (h : Jf I I') : QF I I' J J := ⟨fun a _ _ _ q _ _ => h a q, by rw [h 1 (by omega)], fun k _ => by rw [h 38 (by omega)], fun _ _ => rfl⟩
theorem qf_tg {I' : gI} (h : TG I I') : QF I I' J J := ⟨fun a q1 _ q3 _ _ _ => h.1 a q1 q3, h.2, fun k _ => by rw [h.1 38 (by omega) (by omega)], fun _ _ => rfl⟩
theorem qf_mh {I' : gI} {J' : gJ} (h : MH I I' J J') : QF I I' J J' := ⟨fun a _ q2 _ _ q5 _ => h.1 a q2 q5, by rw [h.1 1 (by decide) (by decide)], h.2.1, h.2.2⟩
theorem qf_u {b : Nat} {f : Nat → Int32} (hb : 50 ≤ b ∧ b ≤ 52) : QF I (va_up I b f) J J := ⟨fun a _ _ _ _ _ q => up_ne (by omega), by rw [up_ne (by omega)], fun k _ => by rw [up_ne (by omega)], fun _ _ => rfl⟩
theorem qf_hi {I' : gI} {J' : gJ} (h : QF I I' J J') : ∀ b, 1000 ≤ b → I' b = I b := fun b q => h.1 b (by omega) (by omega) (by omega) (by omega) (by omega) (by omega)
theorem rel_q {I' : gI} {J' : gJ} (h : QF I I' J J') (hR : Rel I J) : Rel I' J' := by
  obtain ⟨h1, h2, h3, h4⟩ := h
  have e2 : I' 2 = I 2 := h1 2 (by decide) (by decide) (by decide) (by decide) (by decide) (by decide)
  have e3 : I' 3 = I 3 := h1 3 (by decide) (by decide) (by decide) (by decide) (by decide) (by decide)
  have e4 : I' 4 = I 4 := h1 4 (by decide) (by decide) (by decide) (by decide) (by decide) (by decide)
  have e5 : I' 5 = I 5 := h1 5 (by decide) (by decide) (by decide) (by decide) (by decide) (by decide)
  have e6 : I' 6 = I 6 := h1 6 (by decide) (by decide) (by decide) (by decide) (by decide) (by decide)
  have e7 : I' 7 = I 7 := h1 7 (by decide) (by decide) (by decide) (by decide) (by decide) (by decide)
  have e13 : I' 13 = I 13 := h1 13 (by decide) (by decide) (by decide) (by decide) (by decide) (by decide)
  have e15 : I' 15 = I 15 := h1 15 (by decide) (by decide) (by decide) (by decide) (by decide) (by decide)
  have e16 : I' 16 = I 16 := h1 16 (by decide) (by decide) (by decide) (by decide) (by decide) (by decide)
  have e18 : I' 18 = I 18 := h1 18 (by decide) (by decide) (by decide) (by decide) (by decide) (by decide)
  have e20 : I' 20 = I 20 := h1 20 (by decide) (by decide) (by decide) (by decide) (by decide) (by decide)
  have e21 : I' 21 = I 21 := h1 21 (by decide) (by decide) (by decide) (by decide) (by decide) (by decide)
  have e22 : I' 22 = I 22 := h1 22 (by decide) (by decide) (by decide) (by decide) (by decide) (by decide)
  have e24 : I' 24 = I 24 := h1 24 (by decide) (by decide) (by decide) (by decide) (by decide) (by decide)
  have e25 : I' 25 = I 25 := h1 25 (by decide) (by decide) (by decide) (by decide) (by decide) (by decide)
  have e26 : I' 26 = I 26 := h1 26 (by decide) (by decide) (by decide) (by decide) (by decide) (by decide)
  have e27 : I' 27 = I 27 := h1 27 (by decide) (by decide) (by decide) (by decide) (by decide) (by decide)
  have e28 : I' 28 = I 28 := h1 28 (by decide) (by decide) (by decide) (by decide) (by decide) (by decide)
  have e29 : I' 29 = I 29 := h1 29 (by decide) (by decide) (by decide) (by decide) (by decide) (by decide)
  have e39 : I' 39 = I 39 := h1 39 (by decide) (by decide) (by decide) (by decide) (by decide) (by decide)
  have e40 : I' 40 = I 40 := h1 40 (by decide) (by decide) (by decide) (by decide) (by decide) (by decide)
  have e41 : I' 41 = I 41 := h1 41 (by decide) (by decide) (by decide) (by decide) (by decide) (by decide)
  have e42 : I' 42 = I 42 := h1 42 (by decide) (by decide) (by decide) (by decide) (by decide) (by decide)
  have e43 : I' 43 = I 43 := h1 43 (by decide) (by decide) (by decide) (by decide) (by decide) (by decide)
  have e46 : I' 46 = I 46 := h1 46 (by decide) (by decide) (by decide) (by decide) (by decide) (by decide)
  have e48 : I' 48 = I 48 := h1 48 (by decide) (by decide) (by decide) (by decide) (by decide) (by decide)
  have e49 : I' 49 = I 49 := h1 49 (by decide) (by decide) (by decide) (by decide) (by decide) (by decide)
  have f0 : I' 38 0 = I 38 0 := h3 0 (by decide)
  have f5 : I' 38 5 = I 38 5 := h3 5 (by decide)
  have f6 : I' 38 6 = I 38 6 := h3 6 (by decide)
  have f7 : I' 38 7 = I 38 7 := h3 7 (by decide)
  have f20 : I' 38 20 = I 38 20 := h3 20 (by decide)
  have f21 : I' 38 21 = I 38 21 := h3 21 (by decide)
  have f24 : I' 38 24 = I 38 24 := h3 24 (by decide)
  have f27 : I' 38 27 = I 38 27 := h3 27 (by decide)
  have j14 : J' 14 = J 14 := h4 14 (by decide)
  have j45 : J' 45 = J 45 := h4 45 (by decide)
  have j47 : J' 47 = J 47 := h4 47 (by decide)
  have j19 : J' 19 = J 19 := h4 19 (by decide)
  have j23 : J' 23 = J 23 := h4 23 (by decide)
  obtain ⟨N, T, t, m, r1, r2, r3, r4, r5, r6⟩ := hR
  refine ⟨N, T, t, m, ?_, ?_, ?_, ?_, ?_, ?_⟩
  · unfold RH at r1 ⊢
    rw [e3, e4, e5, e6, e7, e39, e40, e41, e42, f0, f6, f27]
    exact r1
  · unfold RT at r2 ⊢
    rw [h2, f7, e43, e2]
    exact r2
  · unfold RM at r3 ⊢
    rw [e13, f21, f5, j45, j14, e46, e15, f20, e16, e6]
    exact r3
  · unfold RK0 at r4 ⊢
    rw [e26, e48, e21, e18, j47, j19, e20, e6]
    exact r4
  · unfold RK1 at r5 ⊢
    rw [e26, e48, e25, e22, j47, j23, e24, e6]
    exact r5
  · unfold RS at r6 ⊢
    rw [e27, f24, e28, e29, e49]
    exact r6
/-- a call's two answers are the same, and the states agree behind it -/
def Pair (Z : gZ) (y1 y2 : Nat) (L1 L2 : List Value) (I : gI) (J : gJ) : Prop := ∃ (a : Int32) (I1 : gI) (J1 : gJ) (I2 : gI) (J2 : gJ), g_at y1 0 L1 [] Z I J = some (some (.int a), Z, I1, J1) ∧ g_at y2 0 L2 [] Z I1 J1 = some (some (.int a), Z, I2, J2) ∧ Rel I2 J2 ∧ (∀ b, 1000 ≤ b → I1 b = I b) ∧ (∀ b, 1000 ≤ b → I2 b = I b)
theorem pr_q {y1 y2 : Nat} {L1 L2 : List Value} {a : Int32} {I1 I2 : gI} {J1 J2 : gJ} (hR : Rel I J) (c1 : g_at y1 0 L1 [] Z I J = some (some (.int a), Z, I1, J1)) (f1 : QF I I1 J J1) (c2 : g_at y2 0 L2 [] Z I1 J1 = some (some (.int a), Z, I2, J2)) (f2 : QF I1 I2 J1 J2) : Pair Z y1 y2 L1 L2 I J := ⟨a, I1, J1, I2, J2, c1, c2, rel_q (qf_trans f1 f2) hR, qf_hi f1, qf_hi (qf_trans f1 f2)⟩
end
