/-! TIMES, pure: counts -/
section
def sumN (f : Nat → Nat) : Nat → Nat
  | 0 => 0
  | n + 1 => sumN f n + f n
theorem sumN_le {f g : Nat → Nat} (n : Nat) : (∀ j, j < n → f j ≤ g j) → sumN f n ≤ sumN g n := by
  induction n with
  | zero => intro _; exact Nat.le_refl _
  | succ n ih =>
    intro h
    have h1 := ih (fun j hj => h j (by omega))
    have h2 := h n (by omega)
    simp only [sumN]
    omega
theorem sumN_add {f g : Nat → Nat} (n : Nat) : sumN (fun j => f j + g j) n = sumN f n + sumN g n := by
  induction n with
  | zero => rfl
  | succ n ih => simp only [sumN]; rw [ih]; omega
theorem sumN_congr {f g : Nat → Nat} (n : Nat) : (∀ j, j < n → f j = g j) → sumN f n = sumN g n := by
  induction n with
  | zero => intro _; rfl
  | succ n ih =>
    intro h
    simp only [sumN]
    rw [ih (fun j hj => h j (by omega)), h n (by omega)]
theorem sumN_0 (n : Nat) : sumN (fun _ => 0) n = 0 := by
  induction n with
  | zero => rfl
  | succ n ih => simp only [sumN]; rw [ih]
theorem sumN_one {q : Nat} (n : Nat) : sumN (fun j => if j = q then 1 else 0) n = if q < n then 1 else 0 := by
  induction n with
  | zero => simp [sumN]
  | succ n ih =>
    simp only [sumN]
    rw [ih]
    by_cases h1 : q < n
    · rw [if_pos h1, if_neg (show ¬ n = q by omega), if_pos (show q < n + 1 by omega)]
    · by_cases h2 : n = q
      · rw [if_neg h1, if_pos h2, if_pos (show q < n + 1 by omega)]
      · rw [if_neg h1, if_neg h2, if_neg (show ¬ q < n + 1 by omega)]
theorem sumN_two (n : Nat) : sumN (fun _ => 2) n = 2 * n := by
  induction n with
  | zero => rfl
  | succ n ih => simp only [sumN]; rw [ih]; omega
/-- how often j stands in the row from a on, n places -/
def cq (l : Nat → Int32) (j a : Nat) : Nat → Nat
  | 0 => 0
  | n + 1 => cq l j a n + (if l (a + n) = nI j then 1 else 0)
theorem cq_head {l : Nat → Int32} {j a : Nat} (n : Nat) : cq l j a (n + 1) = (if l a = nI j then 1 else 0) + cq l j (a + 1) n := by
  induction n with
  | zero => simp only [cq, Nat.add_zero, Nat.zero_add]
  | succ n ih =>
    rw [cq, ih, cq, Nat.add_assoc, show a + (n + 1) = a + 1 + n by omega]
theorem cq_split {l : Nat → Int32} {j a n : Nat} (p : Nat) : cq l j a (n + p) = cq l j a n + cq l j (a + n) p := by
  induction p with
  | zero => simp only [cq, Nat.add_zero]
  | succ p ih =>
    rw [show n + (p + 1) = n + p + 1 by omega, cq, ih, cq, Nat.add_assoc, Nat.add_assoc a n p]
theorem cq_congr {l l' : Nat → Int32} {j a : Nat} (n : Nat) : (∀ x, x < a + n → l x = l' x) → cq l j a n = cq l' j a n := by
  induction n with
  | zero => intro _; rfl
  | succ n ih =>
    intro h
    rw [cq, cq, ih (fun x hx => h x (by omega)), h (a + n) (by omega)]
theorem cq_sum {l : Nat → Int32} {a N : Nat} (hN : N ≤ 10) (n : Nat) : (∀ x, x < a + n → ∃ y, y < N ∧ l x = nI y) → sumN (fun j => cq l j a n) N = n := by
  induction n with
  | zero => intro _; simp only [cq]; exact sumN_0 N
  | succ n ih =>
    intro h
    simp only [cq]
    rw [sumN_add, ih (fun x hx => h x (by omega))]
    obtain ⟨y, hy, e⟩ := h (a + n) (by omega)
    have : sumN (fun j => if l (a + n) = nI j then 1 else 0) N = sumN (fun j => if j = y then 1 else 0) N := by
      refine sumN_congr N (fun j hj => ?_)
      rw [e]
      by_cases q : j = y
      · rw [if_pos q, if_pos (by rw [q])]
      · rw [if_neg q, if_neg (fun z => q ((nI_eq (by omega) (by omega)).mp z).symm)]
    rw [this, sumN_one, if_pos hy]
end
section
variable {h s k d : Nat → Int32} {w : Int32} {c N : Nat}
/-- what reaches j by what it hears -/
def gst (h s k : Nat → Int32) (w : Int32) (st : Nat → Nat) (j : Nat) : Nat := if gd h s k w (-1) j = true then (if k j = 3 then st (hn h j) / 2 else st (hn h j)) else 0
def eqv (h s k : Nat → Int32) (w : Int32) (c m : Nat) (st : Nat → Nat) (j : Nat) : Nat := (if j = c then m else 0) + gst h s k w st j
def odv (h s k : Nat → Int32) (w : Int32) (N : Nat) (st : Nat → Nat) (j : Nat) : Bool := decide (j < N) && (gd h s k w (-1) j && (decide (k j = 3) && decide (st (hn h j) % 2 = 1)))
def upS (st : Nat → Nat) (q : Nat) : Nat → Nat := fun y => if y = q then st y + 1 else st y
def apS (h s k : Nat → Int32) (w : Int32) (st : Nat → Nat) (q x : Nat) : Bool := hearsQ h s k w q x && (!decide (k x = 3) || decide (st q % 2 = 1))
theorem hq_gd (hw : Hw h N) (hN : N ≤ 10) {x q : Nat} (hx : x < 10) (hq : q < 10) : hearsQ h s k w q x = (gd h s k w (-1) x && decide (hn h x = q)) := by
  have n1 : ¬ nI x = -1 := ne_m1 (by omega)
  unfold hearsQ
  cases hg : cH h s k w x
  · have : gd h s k w (-1) x = false := by unfold gd; rw [hg]; rfl
    rw [this]; simp
  · have g1 : gd h s k w (-1) x = true := by unfold gd; rw [hg]; simp [n1]
    obtain ⟨e1, e2⟩ := gd_hn hw hN hx g1
    rw [g1, Bool.and_true, Bool.true_and]
    by_cases z : hn h x = q
    · rw [decide_eq_true z, decide_eq_true (by rw [e1, z])]
    · rw [decide_eq_false z, decide_eq_false (fun y => z (by rw [e1] at y; exact (nI_eq (by omega) (by omega)).mp y))]
theorem eqv_step (hw : Hw h N) (hN : N ≤ 10) {m x q : Nat} {st : Nat → Nat} (hx : x < 10) (hq : q < 10) : eqv h s k w c m (upS st q) x = eqv h s k w c m st x + (if apS h s k w st q x = true then 1 else 0) := by
  unfold eqv gst apS
  rw [hq_gd hw hN hx hq, Nat.add_assoc]
  congr 1
  cases hg : gd h s k w (-1) x
  · simp
  · rw [if_pos rfl, if_pos rfl, Bool.true_and]
    unfold upS
    by_cases z : hn h x = q
    · rw [if_pos z, decide_eq_true z, Bool.true_and]
      by_cases y : k x = 3
      · rw [if_pos y, if_pos y, decide_eq_true y, z]
        by_cases v : st q % 2 = 1
        · simp [v]; omega
        · simp [v]; omega
      · rw [if_neg y, if_neg y, decide_eq_false y]
        simp
    · rw [if_neg z, decide_eq_false z]
      simp
theorem odv_step (hw : Hw h N) (hN : N ≤ 10) {x q : Nat} {st : Nat → Nat} (hx : x < 10) (hq : q < 10) : odv h s k w N (upS st q) x = if (decide (x < N) && (hearsQ h s k w q x && decide (k x = 3))) = true then !odv h s k w N st x else odv h s k w N st x := by
  unfold odv
  rw [hq_gd hw hN hx hq]
  cases hg : gd h s k w (-1) x
  · simp
  · rw [Bool.true_and, Bool.true_and]
    by_cases y : k x = 3
    · rw [decide_eq_true y]
      unfold upS
      by_cases z : hn h x = q
      · rw [if_pos z, decide_eq_true z]
        by_cases u : x < N
        · rw [decide_eq_true u]
          simp only [Bool.true_and, if_true]
          by_cases v : st (hn h x) % 2 = 1
          · rw [decide_eq_true v, decide_eq_false (show ¬ (st (hn h x) + 1) % 2 = 1 by omega)]; rfl
          · rw [decide_eq_false v, decide_eq_true (show (st (hn h x) + 1) % 2 = 1 by omega)]; rfl
        · simp [u]
      · rw [if_neg z, decide_eq_false z]
        simp
    · rw [decide_eq_false y]
      simp
theorem gst_mono {st st' : Nat → Nat} {j : Nat} (hw : Hw h N) (hN : N ≤ 10) (hj : j < 10) (hst : ∀ x, x < N → st x ≤ st' x) : gst h s k w st j ≤ gst h s k w st' j := by
  unfold gst
  by_cases q : gd h s k w (-1) j = true
  · rw [if_pos q, if_pos q]
    have := hst _ (gd_hn hw hN hj q).2
    split <;> omega
  · rw [if_neg q, if_neg q]
    exact Nat.le_refl _
theorem eqv_mono {m : Nat} {st st' : Nat → Nat} {j : Nat} (hw : Hw h N) (hN : N ≤ 10) (hj : j < 10) (hst : ∀ x, x < N → st x ≤ st' x) : eqv h s k w c m st j ≤ eqv h s k w c m st' j := by
  unfold eqv
  have := gst_mono (s := s) (k := k) (w := w) hw hN hj hst
  omega
/-- strokes of c in all: S; those of the others by the ways -/
def GS (h s k d : Nat → Int32) (w : Int32) (c S j : Nat) : Nat := if (trF h s k d w (-1) c 10 j 0 0 0).1 = true then S / 2 ^ (trF h s k d w (-1) c 10 j 0 0 0).2.2.1.toNatClampNeg else 0
def FS (h s k d : Nat → Int32) (w : Int32) (c S j : Nat) : Nat := if j = c then S else GS h s k d w c S j
theorem GS_yes (hw : Hw h N) (hN : N ≤ 10) {n j S : Nat} (hj : j < N) (hp : pth h s k w (-1) c n j) : GS h s k d w c S j = S / 2 ^ sD h k n j := by
  have hle := pth_le hw hN hj hp
  have hdl := sD_le (h := h) (k := k) n j
  unfold GS
  rw [tr_yes hp (by omega), if_pos rfl]
  show S / 2 ^ (0 + nI (sD h k n j)).toNatClampNeg = _
  rw [Int32.zero_add, nI_clamp (by omega)]
theorem GS_no {j S : Nat} (hp : ¬ ∃ n, pth h s k w (-1) c n j) : GS h s k d w c S j = 0 := by
  unfold GS
  rw [if_neg (by rw [tr_no (fun ⟨n, _, h2⟩ => hp ⟨n, h2⟩)]; decide)]
theorem gst_FS (hw : Hw h N) (hN : N ≤ 10) {j S : Nat} (hj : j < N) : gst h s k w (FS h s k d w c S) j = GS h s k d w c S j := by
  unfold gst
  by_cases q : gd h s k w (-1) j = true
  · rw [if_pos q]
    obtain ⟨e1, e2⟩ := gd_hn hw hN (show j < 10 by omega) q
    by_cases z : hn h j = c
    · have hp : pth h s k w (-1) c 1 j := ⟨q, Or.inl ⟨rfl, z⟩⟩
      rw [GS_yes hw hN hj hp, sD, sD]
      unfold FS
      rw [if_pos z]
      by_cases y : k j = 3
      · rw [if_pos y, if_pos y]
      · rw [if_neg y, if_neg y, Nat.add_zero, Nat.pow_zero, Nat.div_one]
    · unfold FS
      rw [if_neg z]
      by_cases hex : ∃ n, pth h s k w (-1) c n (hn h j)
      · obtain ⟨n, hp⟩ := hex
        have hp2 : pth h s k w (-1) c (n + 1) j := ⟨q, Or.inr ⟨z, hp⟩⟩
        rw [GS_yes hw hN hj hp2, GS_yes hw hN e2 hp, sD]
        by_cases y : k j = 3
        · rw [if_pos y, if_pos y, Nat.div_div_eq_div_mul, Nat.add_comm, Nat.pow_succ]
        · rw [if_neg y, if_neg y, Nat.zero_add]
      · rw [GS_no hex, GS_no (j := j)]
        · split <;> rfl
        · intro ⟨n, hp⟩
          cases n with
          | zero => exact hp
          | succ n =>
            rcases hp.2 with ⟨_, y⟩ | ⟨_, y⟩
            · exact z y
            · exact hex ⟨n, y⟩
  · rw [if_neg q, GS_no]
    intro ⟨n, hp⟩
    cases n with
    | zero => exact hp
    | succ n => exact q hp.1
theorem FS_fix (hw : Hw h N) (hN : N ≤ 10) {m S j : Nat} (hS : S = m + GS h s k d w c S c) (hj : j < N) : eqv h s k w c m (FS h s k d w c S) j = FS h s k d w c S j := by
  unfold eqv
  rw [gst_FS hw hN hj]
  unfold FS
  by_cases z : j = c
  · rw [if_pos z, if_pos z, z]; exact hS.symm
  · rw [if_neg z, if_neg z, Nat.zero_add]
theorem div_least {P S x m : Nat} (hP : 2 ≤ P) (hS : S = m + S / P) (hS2 : S % P ≠ 0) (hx : x = m + x / P) (hle : x ≤ S) : x = S := by
  refine Classical.byContradiction (fun hne => ?_)
  have a1 := Nat.div_add_mod S P
  have a2 := Nat.div_add_mod x P
  have a3 := Nat.mod_lt S (show P > 0 by omega)
  have a4 := Nat.mod_lt x (show P > 0 by omega)
  have hb : x / P + 1 ≤ S / P := by omega
  obtain ⟨u, hu⟩ : ∃ u, S / P = x / P + 1 + u := ⟨S / P - (x / P + 1), by omega⟩
  have e : P * (S / P) = P * (x / P) + P + P * u := by rw [hu, Nat.mul_add, Nat.mul_add, Nat.mul_one]
  have e2 : u ≤ P * u := Nat.le_mul_of_pos_left u (by omega)
  omega
theorem FS_uniq (hw : Hw h N) (hN : N ≤ 10) (hc : c < N) {m S : Nat} {st : Nat → Nat} (hS : S = m + GS h s k d w c S c) (hr : ∀ n, pth h s k w (-1) c n c → 1 ≤ sD h k n c ∧ S % 2 ^ sD h k n c ≠ 0) (hst : ∀ j, j < N → st j = eqv h s k w c m st j) (hle : ∀ j, j < N → st j ≤ FS h s k d w c S j) : ∀ j, j < N → st j = FS h s k d w c S j := by
  have key : ∀ n j, j < N → pth h s k w (-1) c n j → gst h s k w st j = st c / 2 ^ sD h k n j := by
    intro n
    induction n with
    | zero => intro j _ hp; exact hp.elim
    | succ n ih =>
      intro j hj hp
      obtain ⟨q, hp2⟩ := hp
      obtain ⟨e1, e2⟩ := gd_hn hw hN (show j < 10 by omega) q
      unfold gst
      rw [if_pos q, sD]
      rcases hp2 with ⟨y1, y2⟩ | ⟨y1, y2⟩
      · subst y1
        rw [y2, sD]
        by_cases y : k j = 3
        · rw [if_pos y, if_pos y]
        · rw [if_neg y, if_neg y, Nat.add_zero, Nat.pow_zero, Nat.div_one]
      · have h1 := hst _ e2
        unfold eqv at h1
        rw [if_neg y1, Nat.zero_add, ih _ e2 y2] at h1
        rw [h1]
        by_cases y : k j = 3
        · rw [if_pos y, if_pos y, Nat.div_div_eq_div_mul, Nat.add_comm, Nat.pow_succ]
        · rw [if_neg y, if_neg y, Nat.zero_add]
  have hxc : st c = S := by
    have h1 := hst c hc
    have h2 := hle c hc
    unfold FS at h2
    rw [if_pos rfl] at h2
    unfold eqv at h1
    rw [if_pos rfl] at h1
    by_cases hex : ∃ n, pth h s k w (-1) c n c
    · obtain ⟨n, hp⟩ := hex
      obtain ⟨d1, d2⟩ := hr n hp
      rw [key n c hc hp] at h1
      rw [GS_yes hw hN hc hp] at hS
      have hP : 2 ^ 1 ≤ 2 ^ sD h k n c := Nat.pow_le_pow_right (by omega) d1
      exact div_least (by omega) hS d2 h1 h2
    · rw [GS_no hex] at hS
      omega
  intro j hj
  by_cases z : j = c
  · rw [z, hxc]
    unfold FS
    rw [if_pos rfl]
  · by_cases hex : ∃ n, pth h s k w (-1) c n j
    · obtain ⟨n, hp⟩ := hex
      have h1 := hst j hj
      unfold eqv at h1
      rw [if_neg z, Nat.zero_add, key n j hj hp, hxc] at h1
      rw [h1]
      unfold FS
      rw [if_neg z, GS_yes hw hN hj hp]
    · have h2 := hle j hj
      unfold FS at h2 ⊢
      rw [if_neg z, GS_no hex] at h2 ⊢
      omega
/-- strokes of the one that is struck, m times by hand; P of them are heard as one more -/
def SM (P : Nat) : Nat → Nat
  | 0 => 0
  | m + 1 => if (SM P m + 1) % P = 0 then SM P m + 2 else SM P m + 1
theorem SM_s {P m : Nat} : SM P m + 1 ≤ SM P (m + 1) ∧ SM P (m + 1) ≤ SM P m + 2 := by
  rw [SM]
  split <;> omega
theorem SM_le {P : Nat} (m : Nat) : SM P m ≤ 2 * m := by
  induction m with
  | zero => exact Nat.le_refl _
  | succ m ih => have := (SM_s (P := P) (m := m)).2; omega
theorem SM_fix {P : Nat} (hP : 2 ≤ P) (m : Nat) : SM P m = m + SM P m / P ∧ (1 ≤ m → SM P m % P ≠ 0) := by
  induction m with
  | zero => exact ⟨by rw [SM, Nat.zero_div], fun h => absurd h (by omega)⟩
  | succ m ih =>
    obtain ⟨h1, -⟩ := ih
    have a1 := Nat.div_add_mod (SM P m) P
    have a3 := Nat.mod_lt (SM P m) (show P > 0 by omega)
    rw [SM]
    by_cases q : (SM P m + 1) % P = 0
    · rw [if_pos q]
      have b1 := Nat.div_add_mod (SM P m + 1) P
      rw [q] at b1
      generalize SM P m = x at *
      generalize hD : (x + 1) / P = D at *
      have hmod : (x + 2) % P = 1 := by
        rw [show x + 2 = 1 + P * D by omega, Nat.add_mul_mod_self_left]
        exact Nat.mod_eq_of_lt (by omega)
      have hdiv : (x + 2) / P = D := by
        rw [show x + 2 = 1 + P * D by omega, Nat.add_mul_div_left _ _ (by omega), Nat.div_eq_of_lt (by omega), Nat.zero_add]
      have hx : x / P + 1 = D := by
        obtain ⟨u, hu⟩ : ∃ u, D = u + 1 := by
          cases D with
          | zero => rw [Nat.mul_zero] at b1; omega
          | succ u => exact ⟨u, rfl⟩
        subst hu
        rw [Nat.mul_add, Nat.mul_one] at b1
        have : x / P = u := by
          rw [show x = (P - 1) + P * u by omega, Nat.add_mul_div_left _ _ (by omega), Nat.div_eq_of_lt (by omega), Nat.zero_add]
        omega
      rw [hdiv, hmod]
      exact ⟨by omega, fun _ => by decide⟩
    · rw [if_neg q]
      have b1 := Nat.div_add_mod (SM P m + 1) P
      have b3 := Nat.mod_lt (SM P m + 1) (show P > 0 by omega)
      have hx : (SM P m + 1) / P = SM P m / P := by
        have e1 : (SM P m + 1) / P = SM P m / P + (if P ∣ SM P m + 1 then 1 else 0) := Nat.succ_div
        rw [if_neg (fun z => q (Nat.mod_eq_zero_of_dvd z)), Nat.add_zero] at e1
        exact e1
      rw [hx]
      exact ⟨by omega, fun _ => q⟩
end
