/-! lines are done; what a text leaves -/
section
variable {Z : gZ} {I : gI} {J : gJ}
theorem ne_200 : ∀ n, n ≤ 200 → ¬ nI n = -1 := by decide +kernel
theorem ln_le {t : Nat → Int32} {T e : Nat} {G : Int32} (he : e ≤ T) : (lnF t T e G).2.1 ≤ T := by
  obtain ⟨-, a1, -, b1⟩ := tk_le t he
  obtain ⟨-, a2, -, b2⟩ := tk_le t b1
  obtain ⟨-, a3, -, b3⟩ := tk_le t b2
  obtain ⟨-, a4, -, b4⟩ := tk_le t b3
  unfold lnF
  repeat' split
  all_goals first | exact a1 | exact b1 | exact a2 | exact b2 | exact a3 | exact b3 | exact a4 | exact b4
theorem lns_le {t : Nat → Int32} {T : Nat} (f : Nat) : ∀ (e : Nat) (G : Int32), e ≤ T → (lnsF t T f e G).2.1 ≤ T := by
  induction f with
  | zero => intro e G he; rw [lnsF]; exact Nat.zero_le _
  | succ f ih =>
    intro e G he
    have h1 := ln_le (t := t) (G := G) he
    obtain ⟨-, a1, -, b1⟩ := tk_le t h1
    rw [lnsF]
    repeat' split
    · exact Nat.zero_le _
    · exact ih _ _ b1
    · exact ih _ _ b1
    · exact a1
    · exact h1
theorem lv_10 {G : Nat} {l : Nat × Int32 × Int32 × Int32} (hG : G ≤ 10) (h : lv G l) : lv 10 l := by
  rcases h with h | ⟨k, a, b, h1, h2, h3, h4⟩ | h | ⟨a, b, c, h1, h2, h3⟩ | ⟨a, h1, h2⟩
  · exact Or.inl h
  · exact Or.inr (Or.inl ⟨k, a, b, h1, h2, by omega, h4⟩)
  · exact Or.inr (Or.inr (Or.inl h))
  · exact Or.inr (Or.inr (Or.inr (Or.inl ⟨a, b, c, by omega, by omega, h3⟩)))
  · exact Or.inr (Or.inr (Or.inr (Or.inr ⟨a, by omega, h2⟩)))
/-- a house as it may be told -/
def Wf (D : Int32 × Int32 × (Nat → Int32) × (Nat → Int32) × (Nat → Int32) × (Nat → Int32)) : Prop := ∃ N, 2 ≤ N ∧ N ≤ 10 ∧ D.1 = nI N ∧ Hw D.2.2.1 N ∧ (∀ j, j < 10 → D.2.2.2.2.1 j = 0 ∨ D.2.2.2.2.1 j = 1 ∨ D.2.2.2.2.1 j = 2 ∨ D.2.2.2.2.1 j = 3) ∧ (∀ j, j < 10 → ∃ v, v ≤ 20 ∧ D.2.2.2.2.2 j = nI v)
theorem hw_up {h : Nat → Int32} {N a : Nat} {v : Int32} (hh : Hw h N) (hv : v = -1 ∨ ∃ q, q < N ∧ v = nI q) : Hw (va_up h a v) N := by
  intro j hj
  unfold va_up
  by_cases e : j = a
  · simp only [e, if_true]; exact hv
  · simp only [e, if_false]; exact hh j hj
theorem wf_dl {D : Int32 × Int32 × (Nat → Int32) × (Nat → Int32) × (Nat → Int32) × (Nat → Int32)} {N : Nat} {l : Nat × Int32 × Int32 × Int32} (hN : D.1 = nI N) (hN2 : N ≤ 10) (hW : Wf D) (hl : lv N l) : Wf (dl D l) := by
  obtain ⟨M, m1, m2, m3, m4, m5, m6⟩ := hW
  rcases hl with ⟨k, h1, h2, rfl⟩ | ⟨k, a, b, h1, h2, h3, h4, h5, rfl⟩ | ⟨n, h1, h2, rfl⟩ | ⟨a, b, c, h1, h2, h3, h4, rfl⟩ | ⟨a, h1, rfl⟩
  · unfold dl
    rw [if_neg (show ¬ k = 0 by omega), if_neg (show ¬ k = 1 by omega), if_neg (show ¬ k = 2 by omega), if_neg (show ¬ k < 7 by omega)]
    exact ⟨M, m1, m2, m3, m4, m5, m6⟩
  · unfold dl
    rw [if_neg (show ¬ k = 0 by omega), if_neg (show ¬ k = 1 by omega), if_neg (show ¬ k = 2 by omega), if_pos (show k < 7 by omega)]
    refine ⟨M, m1, m2, m3, m4, fun j hj => ?_, fun j hj => ?_⟩
    · show va_up D.2.2.2.2.1 _ _ j = 0 ∨ _
      unfold va_up
      by_cases e : j = (nI a).toNatClampNeg
      · simp only [e, if_true]
        rcases (by omega : k = 3 ∨ k = 4 ∨ k = 5 ∨ k = 6) with rfl | rfl | rfl | rfl
        · exact Or.inl rfl
        · exact Or.inr (Or.inl rfl)
        · exact Or.inr (Or.inr (Or.inl rfl))
        · exact Or.inr (Or.inr (Or.inr rfl))
      · simp only [e, if_false]; exact m5 j hj
    · show ∃ v, v ≤ 20 ∧ va_up D.2.2.2.2.2 _ _ j = nI v
      unfold va_up
      by_cases e : j = (nI a).toNatClampNeg
      · simp only [e, if_true]; exact ⟨b, h5, rfl⟩
      · simp only [e, if_false]; exact m6 j hj
  · unfold dl
    rw [if_pos rfl]
    refine ⟨n, h1, h2, rfl, fun j hj => Or.inl (show fl (fun _ => (-1 : Int32)) D.2.2.1 10 j = -1 from fl_lt hj), fun j hj => Or.inl (show fl (fun _ => (0 : Int32)) D.2.2.2.2.1 10 j = 0 from fl_lt hj), fun j hj => ⟨1, by omega, show fl (fun _ => (1 : Int32)) D.2.2.2.2.2 10 j = nI 1 from fl_lt hj⟩⟩
  · unfold dl
    rw [if_neg (show ¬ 1 = 0 by omega), if_pos rfl]
    have hM : b < M := by
      rw [m3] at hN
      have := (nI_eq (by omega) (by omega)).mp hN
      omega
    exact ⟨M, m1, m2, m3, hw_up m4 (Or.inr ⟨b, hM, rfl⟩), m5, m6⟩
  · unfold dl
    rw [if_neg (show ¬ 2 = 0 by omega), if_neg (show ¬ 2 = 1 by omega), if_pos rfl]
    exact ⟨M, m1, m2, m3, hw_up m4 (Or.inl rfl), m5, m6⟩
theorem lns_wf {t : Nat → Int32} {T : Nat} (f : Nat) : ∀ (e G : Nat) (D : Int32 × Int32 × (Nat → Int32) × (Nat → Int32) × (Nat → Int32) × (Nat → Int32)), e ≤ T → 2 ≤ G → G ≤ 10 → D.1 = nI G → Wf D → (lnsF t T f e (nI G)).1 = true → Wf ((lnsF t T f e (nI G)).2.2.foldl dl D) ∧ (∀ l ∈ (lnsF t T f e (nI G)).2.2, lv 10 l) ∧ (lnsF t T f e (nI G)).2.2.length ≤ f := by
  induction f with
  | zero => intro e G D _ _ _ _ _ h; exact b_ft h
  | succ f ih =>
    intro e G D he hG1 hG2 hD hW h
    cases ho : (lnF t T e (nI G)).1
    · rw [lnsF, if_neg (show ¬ (lnF t T e (nI G)).1 = true by rw [ho]; decide)] at h
      exact b_ft h
    · obtain ⟨g1, g2⟩ := ln_lv he (show 1 ≤ G by omega) hG2 ho
      obtain ⟨G', u1, u2, u3⟩ := lv_G hG1 hG2 g1
      have hr0 := lns_ok (f := f) ho rfl rfl u3
      rw [hr0] at h ⊢
      generalize (lnF t T e (nI G)).2.1 = p at g2 h ⊢
      generalize (lnF t T e (nI G)).2.2 = l at g1 u3 h ⊢
      obtain ⟨-, b1, b2, b3⟩ := tk_le t g2
      have hW2 := wf_dl hD hG2 hW g1
      by_cases c1 : tkS t T p = T
      · rw [if_pos c1]
        refine ⟨hW2, fun x hx => ?_, by simp⟩
        rw [List.mem_singleton] at hx
        rw [hx]
        exact lv_10 hG2 g1
      · rw [if_neg c1] at h ⊢
        by_cases c2 : t (tkS t T p) = 59 ∧ ¬ f = 0
        · rw [if_pos c2] at h ⊢
          have hd1 : (dl D l).1 = nI G' := by rw [dl_1, hD]; exact u3
          obtain ⟨x1, x2, x3⟩ := ih (tkN t T p) G' (dl D l) b3 u1 u2 hd1 hW2 h
          refine ⟨x1, fun x hx => ?_, by simp only [List.length_cons]; omega⟩
          rcases List.mem_cons.mp hx with q | q
          · rw [q]; exact lv_10 hG2 g1
          · exact x2 x q
        · rw [if_neg c2] at h
          exact b_ft h
/-- the same house, but for what lies beyond ten -/
def pj (h s k d : Nat → Int32) (D : Int32 × Int32 × (Nat → Int32) × (Nat → Int32) × (Nat → Int32) × (Nat → Int32)) : Int32 × Int32 × (Nat → Int32) × (Nat → Int32) × (Nat → Int32) × (Nat → Int32) := (D.1, D.2.1, fl D.2.2.1 h 10, fl D.2.2.2.1 s 10, fl D.2.2.2.2.1 k 10, fl D.2.2.2.2.2 d 10)
theorem fl_fl {f g g' : Nat → Int32} {k : Nat} : fl (fl f g k) g' k = fl f g' k := by
  funext j
  unfold fl
  by_cases h : j < k <;> simp [h]
theorem fl_flr {f g g' : Nat → Int32} {k : Nat} : fl f (fl g g' k) k = fl f g' k := by
  funext j
  unfold fl
  by_cases h : j < k <;> simp [h]
theorem fl_self {f : Nat → Int32} {k : Nat} : fl f f k = f := by
  funext j
  unfold fl
  by_cases h : j < k <;> simp [h]
theorem fl_up {f g : Nat → Int32} {k a : Nat} {v : Int32} (h : a < k) : fl (va_up f a v) g k = va_up (fl f g k) a v := by
  funext j
  unfold fl va_up
  by_cases h1 : j < k
  · simp [h1]
  · have h2 : ¬ j = a := by omega
    simp [h1, h2]
theorem pj_dl {h s k d : Nat → Int32} {D : Int32 × Int32 × (Nat → Int32) × (Nat → Int32) × (Nat → Int32) × (Nat → Int32)} {l : Nat × Int32 × Int32 × Int32} (hl : lv 10 l) : pj h s k d (dl D l) = dl (pj h s k d D) l := by
  rcases hl with ⟨k, h1, h2, rfl⟩ | ⟨k, a, b, h1, h2, h3, h4, h5, rfl⟩ | ⟨n, h1, h2, rfl⟩ | ⟨a, b, c, h1, h2, h3, h4, rfl⟩ | ⟨a, h1, rfl⟩
  · unfold pj dl
    rw [if_neg (show ¬ k = 0 by omega), if_neg (show ¬ k = 1 by omega), if_neg (show ¬ k = 2 by omega), if_neg (show ¬ k < 7 by omega), if_neg (show ¬ k = 0 by omega), if_neg (show ¬ k = 1 by omega), if_neg (show ¬ k = 2 by omega), if_neg (show ¬ k < 7 by omega)]
  · have e : (nI a).toNatClampNeg < 10 := by rw [nI_clamp (by omega)]; exact h3
    unfold pj dl
    rw [if_neg (show ¬ k = 0 by omega), if_neg (show ¬ k = 1 by omega), if_neg (show ¬ k = 2 by omega), if_pos (show k < 7 by omega), if_neg (show ¬ k = 0 by omega), if_neg (show ¬ k = 1 by omega), if_neg (show ¬ k = 2 by omega), if_pos (show k < 7 by omega)]
    simp only [fl_up e]
  · unfold pj dl
    rw [if_pos rfl, if_pos rfl]
    simp only [fl_fl, fl_flr]
  · have e : (nI a).toNatClampNeg < 10 := by rw [nI_clamp (by omega)]; exact h1
    unfold pj dl
    rw [if_neg (show ¬ 1 = 0 by omega), if_pos rfl, if_neg (show ¬ 1 = 0 by omega), if_pos rfl]
    simp only [fl_up e]
  · have e : (nI a).toNatClampNeg < 10 := by rw [nI_clamp (by omega)]; exact h1
    unfold pj dl
    rw [if_neg (show ¬ 2 = 0 by omega), if_neg (show ¬ 2 = 1 by omega), if_pos rfl, if_neg (show ¬ 2 = 0 by omega), if_neg (show ¬ 2 = 1 by omega), if_pos rfl]
    simp only [fl_up e]
theorem pj_dls {h s k d : Nat → Int32} (L : List (Nat × Int32 × Int32 × Int32)) : ∀ D, (∀ l ∈ L, lv 10 l) → pj h s k d (L.foldl dl D) = L.foldl dl (pj h s k d D) := by
  induction L with
  | nil => intro D _; rfl
  | cons l L ih =>
    intro D hl
    rw [List.foldl_cons, List.foldl_cons, ih _ (fun x hx => hl x (List.mem_cons_of_mem _ hx)), pj_dl (hl l List.mem_cons_self)]
end
