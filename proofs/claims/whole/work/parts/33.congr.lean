/-! only what lies below ten counts -/
section
variable {h s k d h' s' k' d' : Nat → Int32} {w sl : Int32} {c N : Nat}
def Ag (h s k d h' s' k' d' : Nat → Int32) : Prop := ∀ j, j < 10 → h j = h' j ∧ s j = s' j ∧ k j = k' j ∧ d j = d' j
theorem ag_gd (ha : Ag h s k d h' s' k' d') {a : Nat} (h1 : a < 10) : gd h s k w sl a = gd h' s' k' w sl a := by
  obtain ⟨e1, e2, e3, e4⟩ := ha a h1
  simp only [gd, cH, e1, e2, e3]
theorem ag_lt (ha : Ag h s k d h' s' k' d') {a : Nat} (h1 : a < 10) : lt_ k d w a = lt_ k' d' w a := by
  obtain ⟨e1, e2, e3, e4⟩ := ha a h1
  simp only [lt_, e3, e4]
theorem ag_hn (ha : Ag h s k d h' s' k' d') {a : Nat} (h1 : a < 10) : hn h a = hn h' a := by
  obtain ⟨e1, e2, e3, e4⟩ := ha a h1
  simp only [hn, e1]
theorem ag_tr (ha : Ag h s k d h' s' k' d') (hw : Hw h N) (hN : N ≤ 10) (f : Nat) : ∀ (a : Nat) (mi dd mo : Int32), a < N → trF h s k d w sl c f a mi dd mo = trF h' s' k' d' w sl c f a mi dd mo := by
  induction f with
  | zero => intro a mi dd mo _; simp only [trF]
  | succ f ih =>
    intro a mi dd mo h1
    have h2 : a < 10 := by omega
    rw [trF, trF, ← ag_gd ha h2, ← ag_lt ha h2, ← ag_hn ha h2, ← (ha a h2).2.2.1]
    by_cases q : gd h s k w sl a = true
    · rw [if_pos q, if_pos q, ih _ _ _ _ (gd_hn hw hN h2 q).2]
    · rw [if_neg q, if_neg q]
theorem ag_fi (ha : Ag h s k d h' s' k' d') (hw : Hw h N) (hN : N ≤ 10) (f : Nat) : ∀ (a : Nat) (su ti : Int32), a < N → fiF h s k d w sl c f a su ti = fiF h' s' k' d' w sl c f a su ti := by
  induction f with
  | zero => intro a su ti _; simp only [fiF]
  | succ f ih =>
    intro a su ti h1
    have h2 : a < 10 := by omega
    rw [fiF, fiF, ← ag_gd ha h2, ← ag_lt ha h2, ← ag_hn ha h2, ← (ha a h2).2.2.1]
    by_cases q : gd h s k w sl a = true
    · rw [if_pos q, if_pos q, ih _ _ _ (gd_hn hw hN h2 q).2]
    · rw [if_neg q, if_neg q]
theorem ag_ro (ha : Ag h s k d h' s' k' d') (hw : Hw h N) (hN : N ≤ 10) (f : Nat) : ∀ (a : Nat) (su : Int32), a < N → roF h s k d w sl c f a su = roF h' s' k' d' w sl c f a su := by
  induction f with
  | zero => intro a su _; simp only [roF]
  | succ f ih =>
    intro a su h1
    have h2 : a < 10 := by omega
    rw [roF, roF, ← ag_gd ha h2, ← ag_lt ha h2, ← ag_hn ha h2, ← (ha a h2).2.2.1]
    by_cases q : gd h s k w sl a = true ∧ ¬ k a = 3
    · rw [if_pos q, if_pos q, ih _ _ (gd_hn hw hN h2 q.1).2]
    · rw [if_neg q, if_neg q]
theorem ag_rd (ha : Ag h s k d h' s' k' d') (hw : Hw h N) (hN : N ≤ 10) (hc : c < N) : rdF h s k d w sl N c = rdF h' s' k' d' w sl N c := by
  unfold rdF
  exact ag_ro ha hw hN N c 0 hc
theorem ag_mt (ha : Ag h s k d h' s' k' d') (hw : Hw h N) (hN : N ≤ 10) (hc : c < N) {g : Nat} (hg : g < N) : mtF h s k d w sl N c g = mtF h' s' k' d' w sl N c g := by
  unfold mtF
  rw [ag_fi ha hw hN (N + 1) g 0 1 hg, ag_rd ha hw hN hc]
theorem cntB_congr {p q : Nat → Bool} (n : Nat) (hpq : ∀ i, i < n → p i = q i) : cntB p n = cntB q n := by
  induction n with
  | zero => simp only [cntB]
  | succ n ih => simp only [cntB]; rw [hpq n (by omega), ih (fun i hi => hpq i (by omega))]
theorem ag_wh (ha : Ag h s k d h' s' k' d') (hw : Hw h N) (hN : N ≤ 10) (hc : c < N) {g : Nat} (hg : g < N) : whoP h s k d w sl N c g = whoP h' s' k' d' w sl N c g := by
  unfold whoP
  rw [ag_mt ha hw hN hc hg]
theorem ag_whB (ha : Ag h s k d h' s' k' d') (hw : Hw h N) (hN : N ≤ 10) (hc : c < N) : bitsOf (whoP h s k d w sl N c) N = bitsOf (whoP h' s' k' d' w sl N c) N := bitsOf_congr (fun _ hi => ag_wh ha hw hN hc hi)
theorem ag_la (ha : Ag h s k d h' s' k' d') (hw : Hw h N) (hN : N ≤ 10) (hc : c < N) (i : Nat) : i ≤ N → lastF h s k d w sl N c i = lastF h' s' k' d' w sl N c i := by
  induction i with
  | zero => intro _; simp only [lastF]
  | succ i ih => intro hi; simp only [lastF]; rw [ih (by omega), ag_mt ha hw hN hc (show i < N by omega)]
theorem ag_ap (ha : Ag h s k d h' s' k' d') (hw : Hw h N) (hN : N ≤ 10) (hc : c < N) {a b : Nat} (h1 : a < N) (h2 : b < N) : apF h s k d w sl N c a b = apF h' s' k' d' w sl N c a b := by
  unfold apF
  rw [ag_mt ha hw hN hc h1, ag_mt ha hw hN hc h2]
theorem ag_st (ha : Ag h s k d h' s' k' d') (hw : Hw h N) (hN : N ≤ 10) (hc : c < N) {g m : Nat} (hg : g < N) : stF h s k d w sl c g m = stF h' s' k' d' w sl c g m := by
  unfold stF
  rw [ag_tr ha hw hN 10 c 0 0 0 hc, ag_tr ha hw hN 10 g 0 0 0 hg]
theorem ag_fl {h0 s0 k0 d0 : Nat → Int32} : Ag (fl h h0 10) (fl s s0 10) (fl k k0 10) (fl d d0 10) h s k d := fun j hj => ⟨fl_lt hj, fl_lt hj, fl_lt hj, fl_lt hj⟩
theorem ag_symm (ha : Ag h s k d h' s' k' d') : Ag h' s' k' d' h s k d := fun j hj => ⟨(ha j hj).1.symm, (ha j hj).2.1.symm, (ha j hj).2.2.1.symm, (ha j hj).2.2.2.symm⟩
theorem hw_fl {h0 : Nat → Int32} (hw : Hw h N) : Hw (fl h h0 10) N := fun a ha => by rw [fl_lt ha]; exact hw a ha
/-- loops that leave traces of no account, with a state -/
theorem loop_ink {α β : Type} (P : Nat → β → α) (Inv : Nat → β → Prop) {n : Nat} (h : ∀ k, k < n → ∀ b, Inv k b → ∃ b', Inv (k + 1) b' ∧ P k b = P (k + 1) b') (b : β) (hb : Inv 0 b) : ∃ b', Inv n b' ∧ P 0 b = P n b' := by
  have : ∀ k, k ≤ n → ∃ b', Inv k b' ∧ P 0 b = P k b' := by
    intro k
    induction k with
    | zero => intro _; exact ⟨b, hb, rfl⟩
    | succ k ih =>
      intro hk
      obtain ⟨b1, h1, e1⟩ := ih (by omega)
      obtain ⟨b2, h2, e2⟩ := h k (by omega) b1 h1
      exact ⟨b2, h2, e1.trans e2⟩
  exact this n (Nat.le_refl n)
end
