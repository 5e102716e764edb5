/-! longs: what is to come stays small -/
section
theorem l_sm : ∀ k, k < 64 → (((nI k).toInt64 &&& 63).toBitVec.smod 64).toNat = k := by decide +kernel
theorem l_shr {v k : Nat} (hv : v < 2 ^ 63) (hk : k < 64) : Int64.ofNat v >>> ((nI k).toInt64 &&& 63) = Int64.ofNat (v / 2 ^ k) := by
  apply Int64.toInt_inj.mp
  have h2 : v / 2 ^ k ≤ v := Nat.div_le_self _ _
  show (BitVec.sshiftRight (Int64.ofNat v).toBitVec (((nI k).toInt64 &&& 63).toBitVec.smod 64).toNat).toInt = _
  rw [l_sm k hk, BitVec.toInt_sshiftRight]
  show (Int64.ofNat v).toInt >>> k = _
  rw [Int64.toInt_ofNat_of_lt hv, Int64.toInt_ofNat_of_lt (by omega), Int.shiftRight_eq_div_pow]
  rfl
theorem l_or (a b : Nat) : Int64.ofNat a ||| Int64.ofNat b = Int64.ofNat (a ||| b) := by
  apply Int64.toBitVec_inj.mp
  apply BitVec.eq_of_toNat_eq
  show (BitVec.ofNat 64 a ||| BitVec.ofNat 64 b).toNat = (BitVec.ofNat 64 (a ||| b)).toNat
  simp [BitVec.toNat_or, Nat.or_mod_two_pow]
theorem l_xor (a b : Nat) : Int64.ofNat a ^^^ Int64.ofNat b = Int64.ofNat (a ^^^ b) := by
  apply Int64.toBitVec_inj.mp
  apply BitVec.eq_of_toNat_eq
  show (BitVec.ofNat 64 a ^^^ BitVec.ofNat 64 b).toNat = (BitVec.ofNat 64 (a ^^^ b)).toNat
  simp [BitVec.toNat_xor, Nat.xor_mod_two_pow]
theorem l_and (a b : Nat) : Int64.ofNat a &&& Int64.ofNat b = Int64.ofNat (a &&& b) := by
  apply Int64.toBitVec_inj.mp
  apply BitVec.eq_of_toNat_eq
  show (BitVec.ofNat 64 a &&& BitVec.ofNat 64 b).toNat = (BitVec.ofNat 64 (a &&& b)).toNat
  simp [BitVec.toNat_and, Nat.and_mod_two_pow]
theorem l_one : ∀ u, u ≤ 41 → (1 : Int64) <<< ((nI u).toInt64 &&& 63) = Int64.ofNat (2 ^ u) := by decide +kernel
theorem l_bit {v k : Nat} (hv : v < 2 ^ 63) (hk : k < 64) : ((Int64.ofNat v >>> ((nI k).toInt64 &&& 63)) &&& 1 = 0) = (v / 2 ^ k % 2 = 0) := by
  have h2 : v / 2 ^ k ≤ v := Nat.div_le_self _ _
  rw [l_shr hv hk, show (1 : Int64) = Int64.ofNat 1 from rfl, l_and, Nat.and_one_is_mod]
  apply propext
  constructor
  · intro h
    exact ofN_inj (by omega) (by omega) h
  · intro h
    rw [h]
    rfl
theorem nx_eq {v : Nat} (hv : v < 2 ^ 42) : nxF (Int64.ofNat v) 41 1 = nxD (Int64.ofNat v) 50 := by
  have hi : ∀ i, i ≤ 9 → nxD (Int64.ofNat v) i = -1 := by
    intro i
    induction i with
    | zero => intro _; exact nxD_0
    | succ i ih =>
      intro h
      rw [nxD_s, if_neg]
      · exact ih (by omega)
      · rw [l_ne0, l_bit (by omega) (by omega)]
        intro z
        apply z
        have : 2 ^ 42 ≤ 2 ^ (50 - i) := Nat.pow_le_pow_right (by omega) (by omega)
        rw [Nat.div_eq_of_lt (by omega)]
  have key : ∀ f m, m + f = 42 → nxF (Int64.ofNat v) f m = nxD (Int64.ofNat v) (51 - m) := by
    intro f
    induction f with
    | zero =>
      intro m hm
      rw [nxF, hi _ (by omega)]
    | succ f ih =>
      intro m hm
      rw [nxF, ih (m + 1) (by omega), show 51 - m = (51 - (m + 1)) + 1 by omega, nxD_s, show 50 - (51 - (m + 1)) = m by omega]
      by_cases q : (Int64.ofNat v >>> ((nI m).toInt64 &&& 63)) &&& 1 = 0
      · rw [if_pos q, if_neg (by rw [l_ne0]; exact fun z => z q)]
      · rw [if_neg q, if_pos (by rw [l_ne0]; exact q)]
  exact key 41 1 rfl
variable {h s k d o : Nat → Int32} {w : Int32} {N : Nat} {co : Nat → Int64} {st : Nat → Int32}
theorem cB_N (hd : Dl d) (hc : cB N co) {q : Nat} : cB N (fl (comeN h s k d o w co q) co N) := by
  intro j hj
  obtain ⟨⟨v, hv, e⟩, hz⟩ := hc j hj
  refine ⟨?_, fun z => by rw [fl_ge (by omega)]; exact hz z⟩
  by_cases y : j < N
  · rw [fl_lt y]
    unfold comeN
    split
    · obtain ⟨u, hu, eu⟩ := lt_bd (k := k) (w := w) hd hj
      rw [e, eu, l_one u hu, l_or]
      have : 2 ^ u < 2 ^ 42 := Nat.pow_lt_pow_right (by omega) (by omega)
      exact ⟨v ||| 2 ^ u, Nat.or_lt_two_pow hv this, rfl⟩
    · exact ⟨v, hv, e⟩
  · rw [fl_ge y]
    exact ⟨v, hv, e⟩
theorem cB_P (hc : cB N co) : cB N (fl (comeP co) co N) := by
  intro j hj
  obtain ⟨⟨v, hv, e⟩, hz⟩ := hc j hj
  refine ⟨?_, fun z => by rw [fl_ge (by omega)]; exact hz z⟩
  by_cases y : j < N
  · rw [fl_lt y]
    unfold comeP
    have h2 : v / 2 ^ 1 ≤ v := Nat.div_le_self _ _
    have e2 : co j >>> ((1 : Int32).toInt64 &&& 63) = Int64.ofNat (v / 2 ^ 1) := by rw [e]; exact l_shr (k := 1) (by omega) (by omega)
    rw [e2]
    split
    · exact ⟨v / 2 ^ 1, by omega, rfl⟩
    · rw [show (1 : Int64) = Int64.ofNat 1 from rfl, l_xor]
      exact ⟨v / 2 ^ 1 ^^^ 1, Nat.xor_lt_two_pow (by omega) (by decide), rfl⟩
  · rw [fl_ge y]
    exact ⟨v, hv, e⟩
theorem snd_B (hd : Dl d) (hN : N ≤ 10) {p : Nat → Bool} (hc : cB N co) (hs : sB N st) (g : Nat) : g ≤ N → cB N (sndA h s k d w N p st o co g).2.2 ∧ sB N (sndA h s k d w N p st o co g).1 := by
  induction g with
  | zero => intro _; rw [sndA_0]; exact ⟨hc, hs⟩
  | succ g ih =>
    intro hg
    obtain ⟨i1, i2⟩ := ih (by omega)
    rw [sndA_s]
    split
    · refine ⟨cB_N hd i1, fun j hj hn => ?_⟩
      show va_up _ g _ j = 0
      rw [up_ne (by omega)]
      exact i2 j hj hn
    · exact ⟨i1, i2⟩
theorem go_B (hd : Dl d) (hN : N ≤ 10) (hc : cB N co) (hs : sB N st) (i : Nat) : cB N (goA h s k d w N st o co i).2.2 ∧ sB N (goA h s k d w N st o co i).1 := by
  induction i with
  | zero => exact ⟨hc, hs⟩
  | succ i ih =>
    rw [goA]
    exact snd_B hd hN (cB_P ih.1) ih.2 N (Nat.le_refl N)
/-- none beyond N -/
theorem bits_N {p : Nat → Bool} (hN : N ≤ 10) (hp : ∀ j, j < 10 → N ≤ j → p j = false) : bitsOf p 10 = bitsOf p N := by
  have : ∀ i, N + i ≤ 10 → bitsOf p (N + i) = bitsOf p N := by
    intro i
    induction i with
    | zero => intro _; rfl
    | succ i ih =>
      intro hi
      rw [← Nat.add_assoc, bitsOf_s, if_neg (by rw [hp (N + i) (by omega) (by omega)]; decide), ih (by omega)]
  have := this (10 - N) (by omega)
  rw [show N + (10 - N) = 10 by omega] at this
  exact this
theorem sum_N {f : Nat → Int32} (hN : N ≤ 10) (hp : sB N f) : sumI f 10 = sumI f N := by
  have : ∀ i, N + i ≤ 10 → sumI f (N + i) = sumI f N := by
    intro i
    induction i with
    | zero => intro _; rfl
    | succ i ih =>
      intro hi
      rw [← Nat.add_assoc, sumI_s, hp (N + i) (by omega) (by omega), ih (by omega), Int32.add_zero]
  have := this (10 - N) (by omega)
  rw [show N + (10 - N) = 10 by omega] at this
  exact this
end
