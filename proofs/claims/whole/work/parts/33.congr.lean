/-! only what lies below ten counts -/
section
variable {h s k d h' s' k' d' : Nat → Int32} {w sl : Int32} {c N : Nat}
def Ag (h s k d h' s' k' d' : Nat → Int32) : Prop := ∀ j, j < 10 → h j = h' j ∧ s j = s' j ∧ k j = k' j ∧ d j = d' j
theorem Ag.gd (ha : Ag h s k d h' s' k' d') {a : Nat} (h1 : a < 10) : gd h s k w sl a = _root_.gd h' s' k' w sl a := by
  obtain ⟨e1, e2, e3, e4⟩ := ha a h1
  simp only [_root_.gd, cH, e1, e2, e3]
theorem Ag.lt (ha : Ag h s k d h' s' k' d') {a : Nat} (h1 : a < 10) : lt_ k d w a = lt_ k' d' w a := by
  obtain ⟨e1, e2, e3, e4⟩ := ha a h1
  simp only [lt_, e3, e4]
theorem Ag.hn (ha : Ag h s k d h' s' k' d') {a : Nat} (h1 : a < 10) : hn h a = _root_.hn h' a := by
  obtain ⟨e1, e2, e3, e4⟩ := ha a h1
  simp only [_root_.hn, e1]
theorem Ag.tr (ha : Ag h s k d h' s' k' d') (hw : Hw h N) (hN : N ≤ 10) : ∀ {f a : Nat} {mi dd mo : Int32}, a < N → trF h s k d w sl c f a mi dd mo = trF h' s' k' d' w sl c f a mi dd mo
  | 0, _, _, _, _, _ => by rw [trF, trF]
  | f + 1, a, mi, dd, mo, h1 => by
    have h2 : a < 10 := by omega
    rw [trF, trF, ← ha.gd h2, ← ha.lt h2, ← ha.hn h2, ← (ha a h2).2.2.1]
    by_cases q : _root_.gd h s k w sl a = true
    · rw [if_pos q, if_pos q]
      rw [ha.tr hw hN (gd_hn hw hN h2 q).2]
    · rw [if_neg q, if_neg q]
theorem Ag.fi (ha : Ag h s k d h' s' k' d') (hw : Hw h N) (hN : N ≤ 10) : ∀ {f a : Nat} {su ti : Int32}, a < N → fiF h s k d w sl c f a su ti = fiF h' s' k' d' w sl c f a su ti
  | 0, _, _, _, _ => by rw [fiF, fiF]
  | f + 1, a, su, ti, h1 => by
    have h2 : a < 10 := by omega
    rw [fiF, fiF, ← ha.gd h2, ← ha.lt h2, ← ha.hn h2, ← (ha a h2).2.2.1]
    by_cases q : _root_.gd h s k w sl a = true
    · rw [if_pos q, if_pos q]
      rw [ha.fi hw hN (gd_hn hw hN h2 q).2]
    · rw [if_neg q, if_neg q]
theorem Ag.ro (ha : Ag h s k d h' s' k' d') (hw : Hw h N) (hN : N ≤ 10) : ∀ {f a : Nat} {su : Int32}, a < N → roF h s k d w sl c f a su = roF h' s' k' d' w sl c f a su
  | 0, _, _, _ => by rw [roF, roF]
  | f + 1, a, su, h1 => by
    have h2 : a < 10 := by omega
    rw [roF, roF, ← ha.gd h2, ← ha.lt h2, ← ha.hn h2, ← (ha a h2).2.2.1]
    by_cases q : _root_.gd h s k w sl a = true ∧ ¬ k a = 3
    · rw [if_pos q, if_pos q]
      rw [ha.ro hw hN (gd_hn hw hN h2 q.1).2]
    · rw [if_neg q, if_neg q]
theorem Ag.rd (ha : Ag h s k d h' s' k' d') (hw : Hw h N) (hN : N ≤ 10) (hc : c < N) : rdF h s k d w sl N c = rdF h' s' k' d' w sl N c := by
  unfold rdF
  exact ha.ro hw hN hc
theorem Ag.mt (ha : Ag h s k d h' s' k' d') (hw : Hw h N) (hN : N ≤ 10) (hc : c < N) {g : Nat} (hg : g < N) : mtF h s k d w sl N c g = mtF h' s' k' d' w sl N c g := by
  unfold mtF
  rw [ha.fi hw hN hg, ha.rd hw hN hc]
theorem bitsOf_congr {p q : Nat → Bool} : ∀ {n : Nat}, (∀ i, i < n → p i = q i) → bitsOf p n = bitsOf q n
  | 0, _ => by rw [bitsOf, bitsOf]
  | n + 1, hpq => by
    rw [bitsOf, bitsOf, hpq n (by omega), bitsOf_congr (fun i hi => hpq i (by omega))]
theorem cntB_congr {p q : Nat → Bool} : ∀ {n : Nat}, (∀ i, i < n → p i = q i) → cntB p n = cntB q n
  | 0, _ => by rw [cntB, cntB]
  | n + 1, hpq => by
    rw [cntB, cntB, hpq n (by omega), cntB_congr (fun i hi => hpq i (by omega))]
theorem Ag.wh (ha : Ag h s k d h' s' k' d') (hw : Hw h N) (hN : N ≤ 10) (hc : c < N) {g : Nat} (hg : g < N) : whoP h s k d w sl N c g = whoP h' s' k' d' w sl N c g := by
  unfold whoP
  rw [ha.mt hw hN hc hg]
theorem Ag.whB (ha : Ag h s k d h' s' k' d') (hw : Hw h N) (hN : N ≤ 10) (hc : c < N) : bitsOf (whoP h s k d w sl N c) N = bitsOf (whoP h' s' k' d' w sl N c) N := bitsOf_congr (fun _ hi => ha.wh hw hN hc hi)
theorem Ag.la (ha : Ag h s k d h' s' k' d') (hw : Hw h N) (hN : N ≤ 10) (hc : c < N) : ∀ {i : Nat}, i ≤ N → lastF h s k d w sl N c i = lastF h' s' k' d' w sl N c i
  | 0, _ => by rw [lastF, lastF]
  | i + 1, hi => by rw [lastF, lastF, ha.la hw hN hc (by omega), ha.mt hw hN hc (show i < N by omega)]
theorem Ag.ap (ha : Ag h s k d h' s' k' d') (hw : Hw h N) (hN : N ≤ 10) (hc : c < N) {a b : Nat} (h1 : a < N) (h2 : b < N) : apF h s k d w sl N c a b = apF h' s' k' d' w sl N c a b := by
  unfold apF
  rw [ha.mt hw hN hc h1, ha.mt hw hN hc h2]
theorem Ag.st (ha : Ag h s k d h' s' k' d') (hw : Hw h N) (hN : N ≤ 10) (hc : c < N) {g m : Nat} (hg : g < N) : stF h s k d w sl c g m = stF h' s' k' d' w sl c g m := by
  unfold stF
  rw [ha.tr hw hN hc, ha.tr hw hN hg]
theorem Ag.fl {h0 s0 k0 d0 : Nat → Int32} : Ag (_root_.fl h h0 10) (_root_.fl s s0 10) (_root_.fl k k0 10) (_root_.fl d d0 10) h s k d := fun j hj => ⟨fl_lt hj, fl_lt hj, fl_lt hj, fl_lt hj⟩
theorem Ag.symm (ha : Ag h s k d h' s' k' d') : Ag h' s' k' d' h s k d := fun j hj => ⟨(ha j hj).1.symm, (ha j hj).2.1.symm, (ha j hj).2.2.1.symm, (ha j hj).2.2.2.symm⟩
theorem Hw.fl {h0 : Nat → Int32} (hw : Hw h N) : Hw (_root_.fl h h0 10) N := fun a ha => by rw [fl_lt ha]; exact hw a ha
/-- loops that leave traces of no account, with a state -/
theorem loop_ink {α β : Type} (P : Nat → β → α) (Inv : Nat → β → Prop) {n : Nat} (h : ∀ k, k < n → ∀ b, Inv k b → ∃ b', Inv (k + 1) b' ∧ P k b = P (k + 1) b') (b : β) (hb : Inv 0 b) : ∃ b', Inv n b' ∧ P 0 b = P n b' := by
  have : ∀ k, k ≤ n → ∃ b', Inv k b' ∧ P 0 b = P k b' := by
    intro k
    induction k with
    | zero => intro _; exact ⟨b, hb, rfl⟩
    | succ k ih =>
      intro hk
      obtain ⟨b1, h1, e1⟩ := ih (by omega)
      obtain ⟨b2, h2, e2⟩ := h k (by omega) b1 h1
      exact ⟨b2, h2, e1.trans e2⟩
  exact this n (Nat.le_refl n)
end
section
variable {Z : gZ} {I : gI} {J : gJ}
/-- all from i on, f of them -/
def alB (p : Nat → Bool) : Nat → Nat → Bool
  | 0, _ => true
  | f + 1, i => p i && alB p f (i + 1)
theorem alB_iff {p : Nat → Bool} : ∀ {f i : Nat}, alB p f i = true ↔ ∀ j, i ≤ j → j < i + f → p j = true
  | 0, i => ⟨fun _ j h1 h2 => absurd h2 (by omega), fun _ => rfl⟩
  | f + 1, i => by
    rw [alB, Bool.and_eq_true, alB_iff]
    constructor
    · intro ⟨h1, h2⟩ j h3 h4
      by_cases e : j = i
      · rw [e]; exact h1
      · exact h2 j (by omega) (by omega)
    · intro h1
      exact ⟨h1 i (by omega) (by omega), fun j h2 h3 => h1 j (by omega) (by omega)⟩
/-- the sighting i agrees with these strikers -/
def agP (g st : Nat → Int32) (x : Int32) (i : Nat) : Bool := decide (st i = if (x >>> (g i &&& 31)) &&& 1 = 0 then 0 else 1)
theorem X3_agreeWith (hZ : St Z) {x : Int32} {m : Nat} (hm : I 27 2 = nI m) (hm2 : m ≤ 8) : g_at 33 0 [.ref 27, .int x, .null] [] Z I J = some (some (.int (b2i (alB (agP (I 28) (I 29) x) m 0))), Z, I, J) := by
  have key : ∀ f i, i + f = m → g_at 33 2 [.ref 27, .int x, .int (nI i)] [] Z I J = some (some (.int (b2i (alB (agP (I 28) (I 29) x) f i))), Z, I, J) := by
    intro f
    induction f with
    | zero =>
      intro i hi
      have e : i = m := by omega
      subst e
      rw [q_33_2, alB]
      simp (decide := true) only [gN1_int, gN1_ref, gN1_null, gN1_long, gTg8_8, gTg8_14, gTg9_9, gTg9_13, gTgA_8, gTgA_9, gTgA_10, gTgA_11, gTgA_13, gTgA_14, gB01_0, gB01_1, gB01_b, List.cons_append, List.nil_append, Option.toList_some, Option.toList_none, Option.bind_some, ↓reduceIte, eq_self, not_true_eq_false, not_false_eq_true, b2i_0, b2i_1, up_eq, up_ne, up_up, up_sort, up_self, fl_at, nI_s, q_33_0, q_33_1, q_33_3, q_33_4, q_33_7, q_33_10, q_33_11, q_33_14, q_33_15, q_33_16, q_33_17, q_33_18, q_33_21, q_33_22, q_33_23, q_33_24, q_33_25, q_33_26, q_33_29, q_33_30, q_33_33, q_33_34, q_33_37, q_33_38, q_33_39, q_33_42, q_33_45, q_33_46, zk_27, zs_27_0, zr_27_0, zs_27_1, zr_27_1, hZ, hm, Int32.le_refl]
      rfl
    | succ f ih =>
      intro i hi
      obtain ⟨f0, f1, f2⟩ := ixs (j := i) (by omega)
      have f3 : ¬ nI m ≤ nI i := nI_ge (by omega) (by omega)
      have f4 : i < 8 := by omega
      have ih' := ih (i + 1) (by omega)
      rw [q_33_2, alB]
      by_cases h1 : (x >>> (I 28 i &&& 31)) &&& 1 = 0
      · by_cases h2 : I 29 i = 0
        · have hp : agP (I 28) (I 29) x i = true := by simp [agP, h1, h2]
          simp (decide := true) only [gN1_int, gN1_ref, gN1_null, gN1_long, gTg8_8, gTg8_14, gTg9_9, gTg9_13, gTgA_8, gTgA_9, gTgA_10, gTgA_11, gTgA_13, gTgA_14, gB01_0, gB01_1, gB01_b, List.cons_append, List.nil_append, Option.toList_some, Option.toList_none, Option.bind_some, ↓reduceIte, eq_self, not_true_eq_false, not_false_eq_true, b2i_0, b2i_1, up_eq, up_ne, up_up, up_sort, up_self, fl_at, nI_s, q_33_0, q_33_1, q_33_3, q_33_4, q_33_7, q_33_10, q_33_11, q_33_14, q_33_15, q_33_16, q_33_17, q_33_18, q_33_21, q_33_22, q_33_23, q_33_24, q_33_25, q_33_26, q_33_29, q_33_30, q_33_33, q_33_34, q_33_37, q_33_38, q_33_39, q_33_42, q_33_45, q_33_46, zk_27, zk_28, zk_29, zs_27_0, zr_27_0, zs_27_1, zr_27_1, hZ, f0, f1, f2, f3, f4, hm, h1, h2, hp, ih', Bool.true_and]
        · have hp : agP (I 28) (I 29) x i = false := by simp [agP, h1, h2]
          simp (decide := true) only [gN1_int, gN1_ref, gN1_null, gN1_long, gTg8_8, gTg8_14, gTg9_9, gTg9_13, gTgA_8, gTgA_9, gTgA_10, gTgA_11, gTgA_13, gTgA_14, gB01_0, gB01_1, gB01_b, List.cons_append, List.nil_append, Option.toList_some, Option.toList_none, Option.bind_some, ↓reduceIte, eq_self, not_true_eq_false, not_false_eq_true, b2i_0, b2i_1, up_eq, up_ne, up_up, up_sort, up_self, fl_at, nI_s, q_33_0, q_33_1, q_33_3, q_33_4, q_33_7, q_33_10, q_33_11, q_33_14, q_33_15, q_33_16, q_33_17, q_33_18, q_33_21, q_33_22, q_33_23, q_33_24, q_33_25, q_33_26, q_33_29, q_33_30, q_33_33, q_33_34, q_33_37, q_33_38, q_33_39, q_33_42, q_33_45, q_33_46, zk_27, zk_28, zk_29, zs_27_0, zr_27_0, zs_27_1, zr_27_1, hZ, f0, f1, f2, f3, f4, hm, h1, h2, hp, Bool.false_and]
          rfl
      · by_cases h2 : I 29 i = 1
        · have hp : agP (I 28) (I 29) x i = true := by simp [agP, h1, h2]
          simp (decide := true) only [gN1_int, gN1_ref, gN1_null, gN1_long, gTg8_8, gTg8_14, gTg9_9, gTg9_13, gTgA_8, gTgA_9, gTgA_10, gTgA_11, gTgA_13, gTgA_14, gB01_0, gB01_1, gB01_b, List.cons_append, List.nil_append, Option.toList_some, Option.toList_none, Option.bind_some, ↓reduceIte, eq_self, not_true_eq_false, not_false_eq_true, b2i_0, b2i_1, up_eq, up_ne, up_up, up_sort, up_self, fl_at, nI_s, q_33_0, q_33_1, q_33_3, q_33_4, q_33_7, q_33_10, q_33_11, q_33_14, q_33_15, q_33_16, q_33_17, q_33_18, q_33_21, q_33_22, q_33_23, q_33_24, q_33_25, q_33_26, q_33_29, q_33_30, q_33_33, q_33_34, q_33_37, q_33_38, q_33_39, q_33_42, q_33_45, q_33_46, zk_27, zk_28, zk_29, zs_27_0, zr_27_0, zs_27_1, zr_27_1, hZ, f0, f1, f2, f3, f4, hm, h1, h2, hp, ih', Bool.true_and]
        · have hp : agP (I 28) (I 29) x i = false := by simp [agP, h1, h2]
          simp (decide := true) only [gN1_int, gN1_ref, gN1_null, gN1_long, gTg8_8, gTg8_14, gTg9_9, gTg9_13, gTgA_8, gTgA_9, gTgA_10, gTgA_11, gTgA_13, gTgA_14, gB01_0, gB01_1, gB01_b, List.cons_append, List.nil_append, Option.toList_some, Option.toList_none, Option.bind_some, ↓reduceIte, eq_self, not_true_eq_false, not_false_eq_true, b2i_0, b2i_1, up_eq, up_ne, up_up, up_sort, up_self, fl_at, nI_s, q_33_0, q_33_1, q_33_3, q_33_4, q_33_7, q_33_10, q_33_11, q_33_14, q_33_15, q_33_16, q_33_17, q_33_18, q_33_21, q_33_22, q_33_23, q_33_24, q_33_25, q_33_26, q_33_29, q_33_30, q_33_33, q_33_34, q_33_37, q_33_38, q_33_39, q_33_42, q_33_45, q_33_46, zk_27, zk_28, zk_29, zs_27_0, zr_27_0, zs_27_1, zr_27_1, hZ, f0, f1, f2, f3, f4, hm, h1, h2, hp, Bool.false_and]
          rfl
  simp (decide := true) only [gN1_int, gN1_ref, gN1_null, gN1_long, gTg8_8, gTg8_14, gTg9_9, gTg9_13, gTgA_8, gTgA_9, gTgA_10, gTgA_11, gTgA_13, gTgA_14, gB01_0, gB01_1, gB01_b, List.cons_append, List.nil_append, Option.toList_some, Option.toList_none, Option.bind_some, ↓reduceIte, eq_self, not_true_eq_false, not_false_eq_true, b2i_0, b2i_1, up_eq, up_ne, up_up, up_sort, up_self, fl_at, nI_s, q_33_0, q_33_1]
  rw [← nI_0]
  exact key m 0 (by omega)
end
