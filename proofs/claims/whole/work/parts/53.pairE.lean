/-! what is seen, on both sides -/
section
theorem i_and1 (x : Int32) : x &&& 1 = 0 ∨ x &&& 1 = 1 := by
  have h : (x &&& 1).toBitVec.toNat = x.toBitVec.toNat % 2 := by
    show (x.toBitVec &&& (1 : Int32).toBitVec).toNat = _
    rw [BitVec.toNat_and]
    show x.toBitVec.toNat &&& 1 = _
    exact Nat.and_one_is_mod _
  rcases Nat.mod_two_eq_zero_or_one x.toBitVec.toNat with h1 | h1
  · left
    apply Int32.toBitVec_inj.mp
    apply BitVec.eq_of_toNat_eq
    rw [h, h1]
    rfl
  · right
    apply Int32.toBitVec_inj.mp
    apply BitVec.eq_of_toNat_eq
    rw [h, h1]
    rfl
def Sg (g st s : Nat → Int32) (m : Nat) : Prop := ∀ i, i < m → g i = s (2 * i) ∧ st i = s (2 * i + 1)
theorem as_eq {g st s : Nat → Int32} {m : Nat} (hs : Sg g st s m) {x : Int32} : alB (agP g st x) m 0 = alC (soP s x) m := by
  have key : ∀ i, i < m → agP g st x i = soP s x i := by
    intro i hi
    obtain ⟨e1, e2⟩ := hs i hi
    unfold agP soP
    rw [e1, e2]
    rcases i_and1 (x >>> (s (2 * i) &&& 31)) with q | q
    · rw [q]; simp [eq_comm]
    · rw [q]; simp [eq_comm]
  rw [Bool.eq_iff_iff, alB_iff, alC_iff]
  constructor
  · intro q j hj
    rw [← key j hj]
    exact q j (by omega) (by omega)
  · intro q j _ hj
    rw [key j (by omega)]
    exact q j (by omega)
theorem asB_eq {h s k d : Nat → Int32} {w sl : Int32} {N c : Nat} {g st sg : Nat → Int32} {m : Nat} (hs : Sg g st sg m) : asB h s k d w sl N c g st m = soB h s k d w sl N c sg m := as_eq hs
theorem asP_eq {h s k d : Nat → Int32} {w : Int32} {N c : Nat} {g st sg : Nat → Int32} {m : Nat} (hs : Sg g st sg m) : asP h s k d w N c g st m = sqP h s k d w N c sg m := by
  funext i
  unfold asP sqP
  rw [asB_eq hs]
end
