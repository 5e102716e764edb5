/-! CHANGE's and OVER's answers; what is seen -/
section
variable {h s k d : Nat → Int32} {w sl : Int32} {c N : Nat}
theorem ch_ans (hN : N ≤ 10) {a b : Nat} {v : Int32} : (if (chR h s k d w sl N c a b).2.2.1 = -1 then -1 else if v = 0 then (chR h s k d w sl N c a b).1 else if v = 1 then (chR h s k d w sl N c a b).2.2.1 else (chR h s k d w sl N c a b).2.2.2) = (if v = 0 then (chR h s k d w sl N c a b).2.1 else if v = 1 then (chR h s k d w sl N c a b).2.2.1 else (chR h s k d w sl N c a b).2.2.2) := by
  have hi := ch_inv (N := N) (f := chF h s k d w sl N c a b) (x := apF h s k d w sl N c a b) N
  unfold chR
  generalize chO (chF h s k d w sl N c a b) N (apF h s k d w sl N c a b, -1, -1, -1) N = st at hi
  rcases hi with ⟨e1, e2, e3⟩ | ⟨l, o, hl, _, e1, e2, e3⟩
  · rw [e1, e2, e3]; simp
  · have q : ¬ st.2.2.1 = -1 := by rw [e1]; exact ne_m1 (by omega)
    rw [if_neg q, e3]
theorem ov_ans (hN : N ≤ 10) {v : Int32} : (if (ovR h s k d w sl N c).2.2 = -1 then -1 else if v = 0 then (ovR h s k d w sl N c).2.2 else (ovR h s k d w sl N c).1) = (if v = 0 then (ovR h s k d w sl N c).2.2 else (ovR h s k d w sl N c).2.1) := by
  have hi := (ov_st (h := h) (s := s) (k := k) (d := d) (w := w) (sl := sl) (c := c) hN N).2
  unfold ovR
  generalize ovO (ovF h s k d w sl N c) k (nI (cntB (whoP h s k d w sl N c) N), -1, -1) N = st at hi
  rcases hi with ⟨e1, e2⟩ | ⟨g, hg, e1, e2⟩
  · rw [e1, e2]; simp
  · have q : ¬ st.2.2 = -1 := by rw [e1]; exact ne_m1 (by omega)
    rw [if_neg q, e2]
end
