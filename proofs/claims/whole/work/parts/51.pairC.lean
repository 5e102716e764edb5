/-! APART, CHANGE, OVER: the same on both sides -/
section
variable {h s k d : Nat → Int32} {w sl : Int32} {c N : Nat}
theorem ap_eq (hw : Hw h N) (hN : N ≤ 10) (hd : Dl d) (hc : c < N) {a b : Nat} (ha : a < N) (hb : b < N) : apN h s k d w sl N c a b = apF h s k d w sl N c a b := by
  unfold apN apM apF
  rcases mt_bd (s := s) (k := k) (w := w) (sl := sl) hw hN hd hc ha with e1 | ⟨u, hu, e1⟩
  · rw [if_pos (Or.inl e1), if_pos (Or.inl e1)]
  · rcases mt_bd (s := s) (k := k) (w := w) (sl := sl) hw hN hd hc hb with e2 | ⟨v, hv, e2⟩
    · rw [if_pos (Or.inr e2), if_pos (Or.inr e2)]
    · rw [e1, e2]
      by_cases q : nI u = -1 ∨ nI v = -1
      · rw [if_pos q, if_pos q]
      · rw [if_neg q, if_neg q]
        by_cases z : v ≤ u
        · rw [nI_sb z, if_pos (nI_pos' (by omega))]
          by_cases z2 : nI u ≤ nI v
          · have : u ≤ v := by rw [nI_le_iff (by omega) (by omega)] at z2; exact z2
            rw [if_pos z2, nI_sb this]
            congr 1
            omega
          · rw [if_neg z2]
        · have z2 : nI u ≤ nI v := by rw [nI_le_iff (by omega) (by omega)]; omega
          rw [if_pos z2, if_neg (nI_sn (by omega) hv), Int32.zero_sub, Int32.neg_sub]
theorem dl_sw (hd : Dl d) {l o : Nat} (hl : l < 10) (ho : o < 10) : Dl (sw d l o) := by
  intro j hj
  unfold sw va_up
  by_cases q1 : j = o
  · simp [q1]; exact hd l hl
  · by_cases q2 : j = l
    · subst q2; simp [q1]; exact hd o ho
    · simp [q1, q2]; exact hd j hj
theorem ch_eq (hw : Hw h N) (hN : N ≤ 10) (hd : Dl d) (hc : c < N) {a b : Nat} (ha : a < N) (hb : b < N) : chQ h s k d w sl N c a b = chR h s k d w sl N c a b := by
  unfold chQ chR
  rw [ap_eq hw hN hd hc ha hb]
  refine ch_cong _ N (Nat.le_refl N) (fun l o hl ho => ?_)
  unfold chM chF
  exact ap_eq hw hN (dl_sw hd (by omega) (by omega)) hc ha hb
end
