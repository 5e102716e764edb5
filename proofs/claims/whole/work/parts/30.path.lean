/-! ways by HEARS, pure -/
section
variable {h s k d : Nat → Int32} {w sl : Int32} {c N : Nat}
/-- he can hear it, and is awake -/
def gd (h s k : Nat → Int32) (w sl : Int32) (a : Nat) : Bool := cH h s k w a && !decide (nI a = sl)
def hn (h : Nat → Int32) (a : Nat) : Nat := (h a).toNatClampNeg
/-- each hears one that there is, or none -/
def Hw (h : Nat → Int32) (N : Nat) : Prop := ∀ a, a < 10 → h a = -1 ∨ ∃ q, q < N ∧ h a = nI q
theorem gd_hn (hw : Hw h N) (hN : N ≤ 10) {a : Nat} (ha : a < 10) (hg : gd h s k w sl a = true) : h a = nI (hn h a) ∧ hn h a < N := by
  rcases hw a ha with e | ⟨q, hq, e⟩
  · simp [gd, cH, e] at hg
  · have : hn h a = q := by unfold hn; rw [e]; exact nI_clamp (by omega)
    rw [this]
    exact ⟨e, hq⟩
/-- in n steps (one at least) from a to c, for the first time -/
def pth (h s k : Nat → Int32) (w sl : Int32) (c : Nat) : Nat → Nat → Prop
  | 0, _ => False
  | n + 1, a => gd h s k w sl a = true ∧ ((n = 0 ∧ hn h a = c) ∨ (hn h a ≠ c ∧ pth h s k w sl c n (hn h a)))
def sL (h k d : Nat → Int32) (w : Int32) : Nat → Nat → Int32
  | 0, _ => 0
  | n + 1, a => lt_ k d w a + sL h k d w n (hn h a)
def sD (h k : Nat → Int32) : Nat → Nat → Nat
  | 0, _ => 0
  | n + 1, a => (if k a = 3 then 1 else 0) + sD h k n (hn h a)
theorem sD_le : ∀ (n a : Nat), sD h k n a ≤ n
  | 0, _ => Nat.le_refl 0
  | n + 1, a => by
    have := sD_le n (hn h a)
    rw [sD]
    split <;> omega
theorem pth_one : ∀ {n m a : Nat}, pth h s k w sl c n a → pth h s k w sl c m a → n = m
  | 0, _, _, h1, _ => h1.elim
  | n + 1, 0, _, _, h2 => h2.elim
  | n + 1, m + 1, a, h1, h2 => by
    rcases h1.2 with ⟨e1, e2⟩ | ⟨e1, e2⟩ <;> rcases h2.2 with ⟨f1, f2⟩ | ⟨f1, f2⟩
    · omega
    · exact absurd e2 f1
    · exact absurd f2 e1
    · rw [pth_one e2 f2]
def itr (h : Nat → Int32) : Nat → Nat → Nat
  | 0, a => a
  | i + 1, a => itr h i (hn h a)
theorem pth_itr (hw : Hw h N) (hN : N ≤ 10) : ∀ {i n a : Nat}, i < n → a < N → pth h s k w sl c n a → pth h s k w sl c (n - i) (itr h i a) ∧ itr h i a < N
  | 0, n, a, _, ha, hp => ⟨hp, ha⟩
  | i + 1, 0, a, hi, _, _ => absurd hi (Nat.not_lt_zero _)
  | i + 1, n + 1, a, hi, ha, hp => by
    obtain ⟨hg, hp2⟩ := hp
    obtain ⟨e1, e2⟩ := gd_hn hw hN (by omega) hg
    rcases hp2 with ⟨q, -⟩ | ⟨-, q⟩
    · omega
    · have := pth_itr hw hN (i := i) (n := n) (by omega) e2 q
      rw [itr, show n + 1 - (i + 1) = n - i by omega]
      exact this
theorem holes : ∀ (m n : Nat) (f : Nat → Nat), (∀ i, i < n → f i < m) → (∀ i j, i < j → j < n → f i ≠ f j) → n ≤ m
  | 0, n, f, h1, _ => by
    rcases Nat.eq_zero_or_pos n with e | e
    · omega
    · exact absurd (h1 0 e) (Nat.not_lt_zero _)
  | m + 1, n, f, h1, h2 => by
    by_cases hex : ∃ i, i < n ∧ f i = m
    · obtain ⟨i, hi, e⟩ := hex
      have := holes m (n - 1) (fun j => if j < i then f j else f (j + 1)) (fun j hj => by
        have hne : (if j < i then f j else f (j + 1)) ≠ m := by
          split
          · rename_i q; rw [← e]; exact h2 j i q hi
          · rename_i q; rw [← e]; exact fun z => h2 i (j + 1) (by omega) (by omega) z.symm
        have hlt : (if j < i then f j else f (j + 1)) < m + 1 := by split <;> exact h1 _ (by omega)
        omega) (fun a b hab hb => by
        show (if a < i then f a else f (a + 1)) ≠ (if b < i then f b else f (b + 1))
        by_cases q1 : a < i <;> by_cases q2 : b < i
        · rw [if_pos q1, if_pos q2]; exact h2 a b hab (by omega)
        · rw [if_pos q1, if_neg q2]; exact h2 a (b + 1) (by omega) (by omega)
        · omega
        · rw [if_neg q1, if_neg q2]; exact h2 (a + 1) (b + 1) (by omega) (by omega))
      omega
    · have := holes m n f (fun i hi => by
        have a1 := h1 i hi
        have a2 : f i ≠ m := fun q => hex ⟨i, hi, q⟩
        omega) h2
      omega
theorem pth_le (hw : Hw h N) (hN : N ≤ 10) {n a : Nat} (ha : a < N) (hp : pth h s k w sl c n a) : n ≤ N := by
  refine holes N n (fun i => itr h i a) (fun i hi => (pth_itr hw hN hi ha hp).2) (fun i j hij hj e => ?_)
  have h1 := (pth_itr hw hN (show i < n by omega) ha hp).1
  have h2 := (pth_itr hw hN hj ha hp).1
  have e' : itr h i a = itr h j a := e
  rw [e'] at h1
  have := pth_one h1 h2
  omega
/-- Way.trace -/
def trF (h s k d : Nat → Int32) (w sl : Int32) (c : Nat) : Nat → Nat → Int32 → Int32 → Int32 → Bool × Int32 × Int32 × Int32
  | 0, _, mi, dd, mo => (false, mi, dd, mo)
  | f + 1, a, mi, dd, mo => if gd h s k w sl a = true then (if hn h a = c then (true, mi + lt_ k d w a, dd + (if k a = 3 then 1 else 0), mo + 1) else trF h s k d w sl c f (hn h a) (mi + lt_ k d w a) (dd + (if k a = 3 then 1 else 0)) (mo + 1)) else (false, mi, dd, mo)
theorem tr_yes : ∀ {f n a : Nat} {mi dd mo : Int32}, pth h s k w sl c n a → n ≤ f → trF h s k d w sl c f a mi dd mo = (true, mi + sL h k d w n a, dd + nI (sD h k n a), mo + nI n)
  | f, 0, a, _, _, _, hp, _ => hp.elim
  | 0, n + 1, a, _, _, _, _, hn => absurd hn (Nat.not_succ_le_zero n)
  | f + 1, n + 1, a, mi, dd, mo, hp, hle => by
    obtain ⟨hg, hp2⟩ := hp
    rw [trF, if_pos hg]
    rcases hp2 with ⟨e1, e2⟩ | ⟨e1, e2⟩
    · subst e1
      rw [if_pos e2, sL, sL, sD, sD, Int32.add_zero]
      by_cases q : k a = 3
      · simp only [q, if_true]; rfl
      · simp only [q, if_false, nI_0, Nat.zero_add, Nat.add_zero]; rfl
    · rw [if_neg e1, tr_yes e2 (by omega), sL, sD]
      have e3 : mo + 1 + nI n = mo + nI (n + 1) := by rw [Int32.add_assoc, Int32.add_comm 1, nI_1]
      by_cases q : k a = 3
      · simp only [q, if_true, e3, Int32.add_assoc]
        congr 3
        rw [Int32.add_comm 1, nI_1, Nat.add_comm]
      · simp only [q, if_false, e3, Int32.add_assoc, Nat.zero_add, Int32.zero_add]
theorem tr_no : ∀ {f a : Nat} {mi dd mo : Int32}, (¬ ∃ n, n ≤ f ∧ pth h s k w sl c n a) → (trF h s k d w sl c f a mi dd mo).1 = false
  | 0, _, _, _, _, _ => rfl
  | f + 1, a, mi, dd, mo, hno => by
    rw [trF]
    split
    · rename_i hg
      split
      · rename_i e
        exact absurd ⟨1, by omega, hg, Or.inl ⟨rfl, e⟩⟩ hno
      · rename_i e
        exact tr_no (fun ⟨n, h1, h2⟩ => hno ⟨n + 1, by omega, hg, Or.inr ⟨e, h2⟩⟩)
    · rfl
/-- firstOf's loop -/
def fiF (h s k d : Nat → Int32) (w sl : Int32) (c : Nat) : Nat → Nat → Int32 → Int32 → Option (Int32 × Int32)
  | 0, a, su, ti => if a = c then some (su, ti) else none
  | f + 1, a, su, ti => if a = c then some (su, ti) else if gd h s k w sl a = true then fiF h s k d w sl c f (hn h a) (su + lt_ k d w a) (ti * (if k a = 3 then 2 else 1)) else none
theorem fi_c {f : Nat} {su ti : Int32} : fiF h s k d w sl c f c su ti = some (su, ti) := by
  cases f with
  | zero => rw [fiF, if_pos rfl]
  | succ f => rw [fiF, if_pos rfl]
theorem fi_yes : ∀ {f n a : Nat} {su ti : Int32}, pth h s k w sl c n a → n ≤ f → a ≠ c → fiF h s k d w sl c f a su ti = some (su + sL h k d w n a, ti * nI (2 ^ sD h k n a))
  | f, 0, a, _, _, hp, _, _ => hp.elim
  | 0, n + 1, a, _, _, _, hn, _ => absurd hn (Nat.not_succ_le_zero n)
  | f + 1, n + 1, a, su, ti, hp, hle, hac => by
    obtain ⟨hg, hp2⟩ := hp
    rw [fiF, if_neg hac, if_pos hg]
    rcases hp2 with ⟨e1, e2⟩ | ⟨e1, e2⟩
    · subst e1
      rw [e2, fi_c, sL, sL, sD, sD, Int32.add_zero]
      by_cases q : k a = 3
      · simp [q]; rfl
      · simp [q]; exact (Int32.mul_one ti).symm
    · rw [fi_yes e2 (by omega) e1, sL, sD]
      by_cases q : k a = 3
      · simp only [q, if_true, Int32.add_assoc]
        congr 2
        rw [Int32.mul_assoc, show (2 : Int32) = nI 2 from rfl, pk_mul, Nat.add_comm, Nat.pow_succ, Nat.mul_comm]
      · simp only [q, if_false, Int32.add_assoc, Nat.zero_add, Int32.mul_one]
theorem fi_no : ∀ {f a : Nat} {su ti : Int32}, a ≠ c → (¬ ∃ n, n ≤ f ∧ pth h s k w sl c n a) → fiF h s k d w sl c f a su ti = none
  | 0, a, _, _, hac, _ => by rw [fiF, if_neg hac]
  | f + 1, a, su, ti, hac, hno => by
    rw [fiF, if_neg hac]
    split
    · rename_i hg
      by_cases e : hn h a = c
      · exact absurd ⟨1, by omega, hg, Or.inl ⟨rfl, e⟩⟩ hno
      · exact fi_no e (fun ⟨n, h1, h2⟩ => hno ⟨n + 1, by omega, hg, Or.inr ⟨e, h2⟩⟩)
    · rfl
/-- roundOf's loop -/
def roF (h s k d : Nat → Int32) (w sl : Int32) (c : Nat) : Nat → Nat → Int32 → Int32
  | 0, _, _ => -1
  | f + 1, a, su => if gd h s k w sl a = true ∧ ¬ k a = 3 then (if hn h a = c then su + lt_ k d w a else roF h s k d w sl c f (hn h a) (su + lt_ k d w a)) else -1
theorem ro_yes : ∀ {f n a : Nat} {su : Int32}, pth h s k w sl c n a → n ≤ f → sD h k n a = 0 → roF h s k d w sl c f a su = su + sL h k d w n a
  | f, 0, a, _, hp, _, _ => hp.elim
  | 0, n + 1, a, _, _, hn, _ => absurd hn (Nat.not_succ_le_zero n)
  | f + 1, n + 1, a, su, hp, hle, hd => by
    obtain ⟨hg, hp2⟩ := hp
    rw [sD] at hd
    have hk : ¬ k a = 3 := fun q => by rw [if_pos q] at hd; omega
    rw [roF, if_pos ⟨hg, hk⟩]
    rcases hp2 with ⟨e1, e2⟩ | ⟨e1, e2⟩
    · subst e1
      rw [if_pos e2, sL, sL, Int32.add_zero]
    · rw [if_neg e1, ro_yes e2 (by omega) (by omega), sL, Int32.add_assoc]
theorem ro_no : ∀ {f a : Nat} {su : Int32}, (¬ ∃ n, n ≤ f ∧ pth h s k w sl c n a ∧ sD h k n a = 0) → roF h s k d w sl c f a su = -1
  | 0, _, _, _ => by rw [roF]
  | f + 1, a, su, hno => by
    rw [roF]
    split
    · rename_i hg
      split
      · rename_i e
        refine absurd ⟨1, by omega, ⟨hg.1, Or.inl ⟨rfl, e⟩⟩, ?_⟩ hno
        rw [sD, sD, if_neg hg.2]
      · rename_i e
        refine ro_no (fun ⟨n, h1, h2, h3⟩ => hno ⟨n + 1, by omega, ⟨hg.1, Or.inr ⟨e, h2⟩⟩, ?_⟩)
        rw [sD, if_neg hg.2, h3]
    · rfl
/-- ROUND -/
def rdF (h s k d : Nat → Int32) (w sl : Int32) (N c : Nat) : Int32 := roF h s k d w sl c N c 0
/-- FIRST -/
def mtF (h s k d : Nat → Int32) (w sl : Int32) (N c g : Nat) : Int32 := match fiF h s k d w sl c (N + 1) g 0 1 with
  | none => -1
  | some (su, ti) => if ti = 1 then su else if rdF h s k d w sl N c = -1 then -1 else su + (ti - 1) * rdF h s k d w sl N c
theorem mt_c : mtF h s k d w sl N c c = 0 := by
  unfold mtF
  rw [fi_c]
  simp
/-- the class's ring -/
theorem rd_tr (hw : Hw h N) (hN : N ≤ 10) (hc : c < N) : (if (trF h s k d w sl c 10 c 0 0 0).1 = true ∧ (trF h s k d w sl c 10 c 0 0 0).2.2.1 = 0 then (trF h s k d w sl c 10 c 0 0 0).2.1 else -1) = rdF h s k d w sl N c := by
  unfold rdF
  by_cases hex : ∃ n, pth h s k w sl c n c
  · obtain ⟨n, hp⟩ := hex
    have hle := pth_le hw hN hc hp
    have hdl := sD_le (h := h) (k := k) n c
    rw [tr_yes hp (by omega)]
    simp only [Int32.zero_add, true_and]
    by_cases e : sD h k n c = 0
    · rw [ro_yes hp hle e, e, nI_0]
      simp
    · rw [ro_no (fun ⟨m, h1, h2, h3⟩ => by have := pth_one hp h2; subst this; exact e h3), if_neg (nI_ne0 (by omega) (by omega))]
  · rw [tr_no (fun ⟨n, _, h2⟩ => hex ⟨n, h2⟩), ro_no (fun ⟨n, _, h2, _⟩ => hex ⟨n, h2⟩)]
    simp
/-- the class's FIRST -/
theorem mt_tr (hw : Hw h N) (hN : N ≤ 10) (hc : c < N) {g : Nat} (hg : g < N) (hgc : g ≠ c) : (if (trF h s k d w sl c 10 g 0 0 0).1 = true then (if (trF h s k d w sl c 10 g 0 0 0).2.2.1 = 0 then (trF h s k d w sl c 10 g 0 0 0).2.1 else if rdF h s k d w sl N c = -1 then -1 else (trF h s k d w sl c 10 g 0 0 0).2.1 + ((1 <<< ((trF h s k d w sl c 10 g 0 0 0).2.2.1 &&& 31)) - 1) * rdF h s k d w sl N c) else -1) = mtF h s k d w sl N c g := by
  unfold mtF
  by_cases hex : ∃ n, pth h s k w sl c n g
  · obtain ⟨n, hp⟩ := hex
    have hle := pth_le hw hN hg hp
    have hdl := sD_le (h := h) (k := k) n g
    rw [tr_yes hp (by omega), fi_yes hp (by omega) hgc]
    simp only [Int32.zero_add, if_true, Int32.one_mul]
    by_cases e : sD h k n g = 0
    · rw [e, nI_0]
      simp
      intro q
      exact absurd rfl q
    · have e2 : ¬ nI (2 ^ sD h k n g) = 1 := fun q => by
        have hlt : 2 ^ sD h k n g ≤ 2 ^ 10 := Nat.pow_le_pow_right (by omega) (by omega)
        have := (nI_eq (a := 2 ^ sD h k n g) (b := 1) (by omega) (by omega)).mp q
        have h2 : 2 ^ 1 ≤ 2 ^ sD h k n g := Nat.pow_le_pow_right (by omega) (by omega)
        omega
      rw [if_neg (nI_ne0 (by omega) (by omega)), if_neg e2, sh1 _ (by omega)]
  · rw [tr_no (fun ⟨n, _, h2⟩ => hex ⟨n, h2⟩), fi_no hgc (fun ⟨n, _, h2⟩ => hex ⟨n, h2⟩)]
    simp
end
