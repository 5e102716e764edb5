/-! how great a time can be; APART is the same on both sides -/
section
variable {h s k d : Nat → Int32} {w sl : Int32} {c N : Nat}
def Dl (d : Nat → Int32) : Prop := ∀ j, j < 10 → ∃ v, v ≤ 20 ∧ d j = nI v
theorem lt_bd (hd : Dl d) {a : Nat} (ha : a < 10) : ∃ u, u ≤ 41 ∧ lt_ k d w a = nI u := by
  obtain ⟨v, hv, e⟩ := hd a ha
  have e2 : (2 : Int32) * nI v = nI (2 * v) := by rw [show (2 : Int32) = nI 2 from rfl, pk_mul]
  unfold lt_
  rw [e, e2]
  by_cases q1 : w = 2 <;> by_cases q2 : k a = 2
  · exact ⟨2 * v + 1, by omega, by rw [if_pos q1, if_pos q2, nI_1]⟩
  · exact ⟨v + 1, by omega, by rw [if_pos q1, if_neg q2, nI_1]⟩
  · exact ⟨2 * v, by omega, by rw [if_neg q1, if_pos q2]⟩
  · exact ⟨v, by omega, by rw [if_neg q1, if_neg q2]⟩
theorem nI_ad (a b : Nat) : nI a + nI b = nI (a + b) := by
  induction b with
  | zero => rw [nI_0, Int32.add_zero, Nat.add_zero]
  | succ b ih => rw [← nI_1 b, ← Int32.add_assoc, ih, nI_1, Nat.add_assoc]
theorem sL_bd (hw : Hw h N) (hN : N ≤ 10) (hd : Dl d) (n : Nat) : ∀ a, a < N → pth h s k w sl c n a → ∃ u, u ≤ 41 * n ∧ sL h k d w n a = nI u := by
  induction n with
  | zero => intro a _ hp; exact hp.elim
  | succ n ih =>
    intro a ha hp
    obtain ⟨u1, b1, e1⟩ := lt_bd (k := k) (w := w) hd (show a < 10 by omega)
    obtain ⟨-, g2⟩ := gd_hn hw hN (show a < 10 by omega) hp.1
    rw [sL, e1]
    rcases hp.2 with ⟨q1, q2⟩ | ⟨q1, q2⟩
    · subst q1
      exact ⟨u1, by omega, by rw [sL, Int32.add_zero]⟩
    · obtain ⟨u2, b2, e2⟩ := ih _ g2 q2
      exact ⟨u1 + u2, by omega, by rw [e2, nI_ad]⟩
theorem rd_bd (hw : Hw h N) (hN : N ≤ 10) (hd : Dl d) (hc : c < N) : rdF h s k d w sl N c = -1 ∨ ∃ u, u ≤ 410 ∧ rdF h s k d w sl N c = nI u := by
  unfold rdF
  by_cases hex : ∃ n, n ≤ N ∧ pth h s k w sl c n c ∧ sD h k n c = 0
  · obtain ⟨n, q1, q2, q3⟩ := hex
    obtain ⟨u, b, e⟩ := sL_bd hw hN hd n c hc q2
    right
    exact ⟨u, by omega, by rw [ro_yes q2 q1 q3, e, Int32.zero_add]⟩
  · left
    exact ro_no hex
theorem mt_bd (hw : Hw h N) (hN : N ≤ 10) (hd : Dl d) (hc : c < N) {g : Nat} (hg : g < N) : mtF h s k d w sl N c g = -1 ∨ ∃ u, u ≤ 500000 ∧ mtF h s k d w sl N c g = nI u := by
  by_cases e : g = c
  · right; exact ⟨0, by omega, by rw [e, mt_c, nI_0]⟩
  · unfold mtF
    by_cases hex : ∃ n, pth h s k w sl c n g
    · obtain ⟨n, hp⟩ := hex
      have hle := pth_le hw hN hg hp
      obtain ⟨u, b, eu⟩ := sL_bd hw hN hd n g hg hp
      have hdl := sD_le (h := h) (k := k) n g
      have h10 : 2 ^ sD h k n g ≤ 2 ^ 10 := Nat.pow_le_pow_right (by omega) (by omega)
      have hpos : 1 ≤ 2 ^ sD h k n g := Nat.one_le_two_pow
      rw [fi_yes hp (by omega) e, eu]
      simp only [Int32.zero_add, Int32.one_mul]
      by_cases q : nI (2 ^ sD h k n g) = 1
      · right; exact ⟨u, by omega, by rw [if_pos q]⟩
      · rw [if_neg q]
        rcases rd_bd (s := s) (k := k) (w := w) (sl := sl) hw hN hd hc with q2 | ⟨v, bv, ev⟩
        · left; rw [if_pos q2]
        · right
          have ne : ¬ nI v = -1 := fun z => by
            have : ∀ n, n ≤ 410 → ¬ nI n = -1 := by decide +kernel
            exact this v bv z
          rw [ev, if_neg ne]
          have e3 : nI (2 ^ sD h k n g) - 1 = nI (2 ^ sD h k n g - 1) := by
            have : nI (2 ^ sD h k n g - 1) + 1 = nI (2 ^ sD h k n g) := by rw [nI_1]; congr 1; omega
            rw [← this]; exact Int32.add_sub_cancel _ _
          have hb : (2 ^ sD h k n g - 1) * v ≤ 1023 * 410 := Nat.mul_le_mul (by omega) bv
          exact ⟨u + (2 ^ sD h k n g - 1) * v, by omega, by rw [e3, pk_mul, nI_ad]⟩
    · left
      rw [fi_no e (fun ⟨n, _, q⟩ => hex ⟨n, q⟩)]
end
