/-! APART is the same on both sides -/
section
theorem nI_sb {u v : Nat} (h : v ≤ u) : nI u - nI v = nI (u - v) := by
  have e : nI u = nI (u - v) + nI v := by rw [nI_ad]; congr 1; omega
  rw [e]; exact Int32.add_sub_cancel _ _
theorem nI_toI {u : Nat} (h : u ≤ 500000) : (nI u).toInt = u := Int32.toInt_ofNat_of_lt (by omega)
theorem nI_sn {u v : Nat} (h : u < v) (hv : v ≤ 500000) : ¬ 0 ≤ nI u - nI v := by
  intro q
  rw [Int32.le_iff_toInt_le, Int32.toInt_sub, nI_toI (show u ≤ 500000 by omega), nI_toI hv, Int.bmod_eq_of_le (by omega) (by omega)] at q
  have : (0 : Int32).toInt = 0 := rfl
  omega
end
