/-! THE EQUATIONS of the abstract machine, an instruction each -/
noncomputable def g_at (y pc : Nat) (L S : List Value) (Z : gZ) (I : gI) (J : gJ) : Option gR := g_lim g_Ms g_Pg y pc L S Z I J
def gKd (Z : gZ) (a : Nat) : Nat × Nat := Z.2.2.1 a
def gRq (Z : gZ) (a k : Nat) : Nat := (Z.2.2.2 a k).getD 0
def gRs (Z : gZ) (a k : Nat) : Bool := (Z.2.2.2 a k).isSome
def gN1 (v : Value) : Bool := decide (v.category = 1)
def gB01 (x : Int32) : Bool := decide (x = 0 ∨ x = 1)
def gTg8 (t a : Nat) : Bool := decide (t = 8 ∨ (t = 14 ∧ 1000 ≤ a))
def gTg9 (t a : Nat) : Bool := decide (t = 9 ∨ (t = 13 ∧ 1000 ≤ a))
def gTgA (t a : Nat) : Bool := decide ((8 ≤ t ∧ t < 12) ∨ ((t = 13 ∨ t = 14) ∧ 1000 ≤ a))
section GQ
variable {y pc p' : Nat} {L S : List Value} {Z : gZ} {I : gI} {J : gJ}
theorem gq_push {v : Value} (h : g_Pg y pc = ga_push v p') : g_at y pc L S Z I J = g_at y p' L (v :: S) Z I J := g_lim_nx (by rw [h]; rfl)
theorem gq_iload {i : Nat} {x : Int32} (h : g_Pg y pc = ga_iload i p') (hl : L[i]? = some (.int x)) : g_at y pc L S Z I J = g_at y p' L (.int x :: S) Z I J := g_lim_nx (by rw [h]; simp only [ga_iload, hl])
theorem gq_lload {i : Nat} {x : Int64} (h : g_Pg y pc = ga_lload i p') (hl : L[i]? = some (.long x)) : g_at y pc L S Z I J = g_at y p' L (.long x :: S) Z I J := g_lim_nx (by rw [h]; simp only [ga_lload, hl])
theorem gq_aload {i : Nat} {x : Nat} (h : g_Pg y pc = ga_aload i p') (hl : L[i]? = some (.ref x)) : g_at y pc L S Z I J = g_at y p' L (.ref x :: S) Z I J := g_lim_nx (by rw [h]; simp only [ga_aload, hl])
theorem gq_istore {i : Nat} {x : Int32} {L' : List Value} (h : g_Pg y pc = ga_istore i p') (hn : gNl L i = true) (hi : decide (i < L.length) = true) (hL : L.set i (.int x) = L') : g_at y pc L (.int x :: S) Z I J = g_at y p' L' S Z I J := g_lim_nx (by rw [h]; simp only [ga_istore]; rw [if_pos ⟨hn, of_decide_eq_true hi⟩, hL])
theorem gq_astore {i : Nat} {x : Nat} {L' : List Value} (h : g_Pg y pc = ga_astore i p') (hn : gNl L i = true) (hi : decide (i < L.length) = true) (hL : L.set i (.ref x) = L') : g_at y pc L (.ref x :: S) Z I J = g_at y p' L' S Z I J := g_lim_nx (by rw [h]; simp only [ga_astore]; rw [if_pos ⟨hn, of_decide_eq_true hi⟩, hL])
theorem gq_iinc {i : Nat} {x n : Int32} {L' : List Value} (h : g_Pg y pc = ga_iinc i n p') (hl : L[i]? = some (.int x)) (hn : gNl L i = true) (hL : L.set i (.int (x + n)) = L') : g_at y pc L S Z I J = g_at y p' L' S Z I J := g_lim_nx (by rw [h]; simp only [ga_iinc, hl]; rw [if_pos hn, hL])
theorem gq_un {f : Int32 → Int32} {x : Int32} (h : g_Pg y pc = ga_un f p') : g_at y pc L (.int x :: S) Z I J = g_at y p' L (.int (f x) :: S) Z I J := g_lim_nx (by rw [h]; rfl)
theorem gq_bin {f : Int32 → Int32 → Int32} {a b : Int32} (h : g_Pg y pc = ga_bin f p') : g_at y pc L (.int b :: .int a :: S) Z I J = g_at y p' L (.int (f a b) :: S) Z I J := g_lim_nx (by rw [h]; rfl)
theorem gq_div {f : Int32 → Int32 → Int32} {a b : Int32} (h : g_Pg y pc = ga_div f p') (hb : ¬ b = 0) : g_at y pc L (.int b :: .int a :: S) Z I J = g_at y p' L (.int (f a b) :: S) Z I J := g_lim_nx (by rw [h]; simp only [ga_div]; rw [if_neg hb])
theorem gq_lbin {f : Int64 → Int64 → Int64} {a b : Int64} (h : g_Pg y pc = ga_lbin f p') : g_at y pc L (.long b :: .long a :: S) Z I J = g_at y p' L (.long (f a b) :: S) Z I J := g_lim_nx (by rw [h]; rfl)
theorem gq_lsh {f : Int64 → Int32 → Int64} {a : Int64} {b : Int32} (h : g_Pg y pc = ga_lsh f p') : g_at y pc L (.int b :: .long a :: S) Z I J = g_at y p' L (.long (f a b) :: S) Z I J := g_lim_nx (by rw [h]; rfl)
theorem gq_lcmp {a b : Int64} (h : g_Pg y pc = ga_lcmp p') : g_at y pc L (.long b :: .long a :: S) Z I J = g_at y p' L (.int (lg_cmp a b) :: S) Z I J := g_lim_nx (by rw [h]; rfl)
theorem gq_i2l {x : Int32} (h : g_Pg y pc = ga_i2l p') : g_at y pc L (.int x :: S) Z I J = g_at y p' L (.long x.toInt64 :: S) Z I J := g_lim_nx (by rw [h]; rfl)
theorem gq_l2i {x : Int64} (h : g_Pg y pc = ga_l2i p') : g_at y pc L (.long x :: S) Z I J = g_at y p' L (.int x.toInt32 :: S) Z I J := g_lim_nx (by rw [h]; rfl)
theorem gq_dup {x : Nat} (h : g_Pg y pc = ga_dup p') : g_at y pc L (.ref x :: S) Z I J = g_at y p' L (.ref x :: .ref x :: S) Z I J := g_lim_nx (by rw [h]; rfl)
theorem gq_dup2 {x : Nat} {b : Int32} (h : g_Pg y pc = ga_dup2 p') : g_at y pc L (.int b :: .ref x :: S) Z I J = g_at y p' L (.int b :: .ref x :: .int b :: .ref x :: S) Z I J := g_lim_nx (by rw [h]; rfl)
theorem gq_pop {x : Int32} (h : g_Pg y pc = ga_pop p') : g_at y pc L (.int x :: S) Z I J = g_at y p' L S Z I J := g_lim_nx (by rw [h]; rfl)
theorem gq_goto (h : g_Pg y pc = ga_goto p') : g_at y pc L S Z I J = g_at y p' L S Z I J := g_lim_nx (by rw [h]; rfl)
theorem gq_if {f : Int32 → Bool} {x : Int32} {t : Nat} {c : Prop} [Decidable c] (h : g_Pg y pc = ga_if f t p') (hc : f x = decide c) : g_at y pc L (.int x :: S) Z I J = if c then g_at y t L S Z I J else g_at y p' L S Z I J := by
  have e : g_at y pc L (.int x :: S) Z I J = g_at y (if f x = true then t else p') L S Z I J := g_lim_nx (by rw [h]; rfl)
  rw [e, hc]
  by_cases q : c
  · rw [if_pos q, if_pos (decide_eq_true q)]
  · rw [if_neg q, if_neg (fun z => q (of_decide_eq_true z))]
theorem gq_cmp {f : Int32 → Int32 → Bool} {a b : Int32} {t : Nat} {c : Prop} [Decidable c] (h : g_Pg y pc = ga_cmp f t p') (hc : f a b = decide c) : g_at y pc L (.int b :: .int a :: S) Z I J = if c then g_at y t L S Z I J else g_at y p' L S Z I J := by
  have e : g_at y pc L (.int b :: .int a :: S) Z I J = g_at y (if f a b = true then t else p') L S Z I J := g_lim_nx (by rw [h]; rfl)
  rw [e, hc]
  by_cases q : c
  · rw [if_pos q, if_pos (decide_eq_true q)]
  · rw [if_neg q, if_neg (fun z => q (of_decide_eq_true z))]
theorem gq_switch {lo : Int} {ts : List Nat} {d : Nat} {x : Int32} (h : g_Pg y pc = ga_switch lo ts d) : g_at y pc L (.int x :: S) Z I J = g_at y (gsw lo ts d x.toInt) L S Z I J := g_lim_nx (by rw [h]; rfl)
theorem gsw_cons {α : Type} {F : Nat → α} {lo lo' : Int} {v x : Int32} {t d : Nat} {r : List Nat} {rest : α} (hv : v.toInt = lo) (hl : lo + 1 = lo') (hr : F (gsw lo' r d x.toInt) = rest) : F (gsw lo (t :: r) d x.toInt) = if x = v then F t else rest := by
  subst hl
  rw [gsw]
  by_cases e : x = v
  · rw [if_pos (by rw [e]; exact hv), if_pos e]
  · rw [if_neg (fun z => e (Int32.toInt_inj.mp (z.trans hv.symm))), if_neg e]
    exact hr
theorem gq_iret {x : Int32} (h : g_Pg y pc = ga_iret) : g_at y pc L [.int x] Z I J = some (some (.int x), Z, I, J) := g_lim_rt (by rw [h]; rfl)
theorem gq_zret {x : Int32} (h : g_Pg y pc = ga_zret) (hx : gB01 x = true) : g_at y pc L [.int x] Z I J = some (some (.int x), Z, I, J) := g_lim_rt (by rw [h]; simp only [ga_zret]; rw [if_pos (of_decide_eq_true hx)])
theorem gq_cret {x : Int32} (h : g_Pg y pc = ga_cret) (hx : narrow .char (.int x) = .int x) : g_at y pc L [.int x] Z I J = some (some (.int x), Z, I, J) := g_lim_rt (by rw [h]; simp only [ga_cret]; rw [if_pos hx])
theorem gq_aret {x : Nat} (h : g_Pg y pc = ga_aret) : g_at y pc L [.ref x] Z I J = some (some (.ref x), Z, I, J) := g_lim_rt (by rw [h]; rfl)
theorem gq_vret (h : g_Pg y pc = ga_vret) : g_at y pc L [] Z I J = some (none, Z, I, J) := g_lim_rt (by rw [h]; rfl)
theorem gq_getI {ci k a : Nat} (h : g_Pg y pc = ga_getI ci k p') (ha : (gKd Z a).1 = ci) : g_at y pc L (.ref a :: S) Z I J = g_at y p' L (.int (I a k) :: S) Z I J := g_lim_nx (by rw [h]; exact if_pos ha)
theorem gq_getL {ci k a : Nat} (h : g_Pg y pc = ga_getL ci k p') (ha : (gKd Z a).1 = ci) : g_at y pc L (.ref a :: S) Z I J = g_at y p' L (.long (J a k) :: S) Z I J := g_lim_nx (by rw [h]; exact if_pos ha)
theorem gq_getR {ci k a : Nat} (h : g_Pg y pc = ga_getR ci k p') (ha : (gKd Z a).1 = ci) (hr : gRs Z a k = true) : g_at y pc L (.ref a :: S) Z I J = g_at y p' L (.ref (gRq Z a k) :: S) Z I J := g_lim_nx (by
  rw [h]
  refine (if_pos ha).trans ?_
  unfold gRq
  unfold gRs at hr
  cases hq : Z.2.2.2 a k with
  | none => rw [hq] at hr; cases hr
  | some q => rfl)
theorem gq_putI {ci k a : Nat} {v : Int32} (h : g_Pg y pc = ga_putI ci k p') (ha : (gKd Z a).1 = ci) : g_at y pc L (.int v :: .ref a :: S) Z I J = g_at y p' L S Z (va_up I a (va_up (I a) k v)) J := g_lim_nx (by rw [h]; exact if_pos ha)
theorem gq_putL {ci k a : Nat} {v : Int64} (h : g_Pg y pc = ga_putL ci k p') (ha : (gKd Z a).1 = ci) : g_at y pc L (.long v :: .ref a :: S) Z I J = g_at y p' L S Z I (va_up J a (va_up (J a) k v)) := g_lim_nx (by rw [h]; exact if_pos ha)
theorem gq_putR {ci k a v : Nat} (h : g_Pg y pc = ga_putR ci k p') (ha : (gKd Z a).1 = ci) : g_at y pc L (.ref v :: .ref a :: S) Z I J = g_at y p' L S (Z.1, Z.2.1, Z.2.2.1, va_up Z.2.2.2 a (va_up (Z.2.2.2 a) k (some v))) I J := g_lim_nx (by rw [h]; exact if_pos ha)
theorem gq_getS {a : Nat} (h : g_Pg y pc = ga_getS p') (ha : (gKd Z a).1 = 12) (h1 : 1000 ≤ a) : g_at y pc L (.ref a :: S) Z I J = g_at y p' L (.ref (a + 20) :: S) Z I J := g_lim_nx (by rw [h]; exact if_pos ⟨ha, h1⟩)
theorem gq_getC {a : Nat} (h : g_Pg y pc = ga_getC p') (ha : (gKd Z a).1 = 12) (h1 : 1000 ≤ a) : g_at y pc L (.ref a :: S) Z I J = g_at y p' L (.int 0 :: S) Z I J := g_lim_nx (by rw [h]; exact if_pos ⟨ha, h1⟩)
theorem gq_iald {a : Nat} {i : Int32} (h : g_Pg y pc = ga_iald p') (ha : gTg8 (gKd Z a).1 a = true) (h0 : 0 ≤ i) (h1 : i.toNatClampNeg < (gKd Z a).2) : g_at y pc L (.int i :: .ref a :: S) Z I J = g_at y p' L (.int (I a i.toNatClampNeg) :: S) Z I J := g_lim_nx (by rw [h]; exact if_pos ⟨of_decide_eq_true ha, h0, h1⟩)
theorem gq_bald {a : Nat} {i : Int32} (h : g_Pg y pc = ga_bald p') (ha : gTg9 (gKd Z a).1 a = true) (h0 : 0 ≤ i) (h1 : i.toNatClampNeg < (gKd Z a).2) : g_at y pc L (.int i :: .ref a :: S) Z I J = g_at y p' L (.int (I a i.toNatClampNeg) :: S) Z I J := g_lim_nx (by rw [h]; exact if_pos ⟨of_decide_eq_true ha, h0, h1⟩)
theorem gq_lald {a : Nat} {i : Int32} (h : g_Pg y pc = ga_lald p') (ha : (gKd Z a).1 = 10) (h0 : 0 ≤ i) (h1 : i.toNatClampNeg < (gKd Z a).2) : g_at y pc L (.int i :: .ref a :: S) Z I J = g_at y p' L (.long (J a i.toNatClampNeg) :: S) Z I J := g_lim_nx (by rw [h]; exact if_pos ⟨ha, h0, h1⟩)
theorem gq_aald {a : Nat} {i : Int32} (h : g_Pg y pc = ga_aald p') (ha : (gKd Z a).1 = 11) (h0 : 0 ≤ i) (h1 : i.toNatClampNeg < (gKd Z a).2) (hr : gRs Z a i.toNatClampNeg = true) : g_at y pc L (.int i :: .ref a :: S) Z I J = g_at y p' L (.ref (gRq Z a i.toNatClampNeg) :: S) Z I J := g_lim_nx (by
  rw [h]
  refine (if_pos ⟨ha, h0, h1⟩).trans ?_
  unfold gRq
  unfold gRs at hr
  cases hq : Z.2.2.2 a i.toNatClampNeg with
  | none => rw [hq] at hr; cases hr
  | some q => rfl)
theorem gq_iast {a : Nat} {i v : Int32} (h : g_Pg y pc = ga_iast p') (ha : (gKd Z a).1 = 8) (h0 : 0 ≤ i) (h1 : i.toNatClampNeg < (gKd Z a).2) : g_at y pc L (.int v :: .int i :: .ref a :: S) Z I J = g_at y p' L S Z (va_up I a (va_up (I a) i.toNatClampNeg v)) J := g_lim_nx (by rw [h]; exact if_pos ⟨ha, h0, h1⟩)
theorem gq_bast {a : Nat} {i v : Int32} (h : g_Pg y pc = ga_bast p') (ha : (gKd Z a).1 = 9) (h0 : 0 ≤ i) (h1 : i.toNatClampNeg < (gKd Z a).2) (h2 : gB01 v = true) : g_at y pc L (.int v :: .int i :: .ref a :: S) Z I J = g_at y p' L S Z (va_up I a (va_up (I a) i.toNatClampNeg v)) J := g_lim_nx (by rw [h]; exact if_pos ⟨ha, h0, h1, of_decide_eq_true h2⟩)
theorem gq_last {a : Nat} {i : Int32} {v : Int64} (h : g_Pg y pc = ga_last p') (ha : (gKd Z a).1 = 10) (h0 : 0 ≤ i) (h1 : i.toNatClampNeg < (gKd Z a).2) : g_at y pc L (.long v :: .int i :: .ref a :: S) Z I J = g_at y p' L S Z I (va_up J a (va_up (J a) i.toNatClampNeg v)) := g_lim_nx (by rw [h]; exact if_pos ⟨ha, h0, h1⟩)
theorem gq_aast {a v : Nat} {i : Int32} (h : g_Pg y pc = ga_aast p') (ha : (gKd Z a).1 = 11) (h0 : 0 ≤ i) (h1 : i.toNatClampNeg < (gKd Z a).2) (h2 : (gKd Z v).1 = 2) : g_at y pc L (.ref v :: .int i :: .ref a :: S) Z I J = g_at y p' L S (Z.1, Z.2.1, Z.2.2.1, va_up Z.2.2.2 a (va_up (Z.2.2.2 a) i.toNatClampNeg (some v))) I J := g_lim_nx (by rw [h]; exact if_pos ⟨ha, h0, h1, h2⟩)
theorem gq_alen {a : Nat} (h : g_Pg y pc = ga_alen p') (ha : gTgA (gKd Z a).1 a = true) : g_at y pc L (.ref a :: S) Z I J = g_at y p' L (.int (Int32.ofNat (gKd Z a).2) :: S) Z I J := g_lim_nx (by rw [h]; exact if_pos (of_decide_eq_true ha))
theorem gq_new {ci n : Nat} (h : g_Pg y pc = ga_new ci n p') (hz : Z.1 < 1000) : g_at y pc L S Z I J = g_at y p' L (.ref Z.1 :: S) (Z.1 + 1, Z.2.1 + n, va_up Z.2.2.1 Z.1 (ci, 0), va_up Z.2.2.2 Z.1 (fun _ => none)) (va_up I Z.1 (fun _ => 0)) (va_up J Z.1 (fun _ => 0)) := g_lim_nx (by rw [h]; exact if_pos hz)
theorem gq_newa {tag : Nat} {n : Int32} (h : g_Pg y pc = ga_newa tag p') (hz : Z.1 < 1000) (h0 : 0 ≤ n) (h1 : n.toNatClampNeg ≤ 1000) : g_at y pc L (.int n :: S) Z I J = g_at y p' L (.ref Z.1 :: S) (Z.1 + 1, Z.2.1 + n.toNatClampNeg, va_up Z.2.2.1 Z.1 (tag, n.toNatClampNeg), va_up Z.2.2.2 Z.1 (fun _ => none)) (va_up I Z.1 (fun _ => 0)) (va_up J Z.1 (fun _ => 0)) := g_lim_nx (by rw [h]; exact if_pos ⟨hz, h0, h1⟩)
theorem gq_oinit {x : Nat} (h : g_Pg y pc = ga_oinit p') : g_at y pc L [.ref x] Z I J = g_at y p' L [] Z I J := g_lim_nx (by rw [h]; rfl)
theorem gq_max {a b : Int32} (h : g_Pg y pc = ga_max p') : g_at y pc L [.int b, .int a] Z I J = g_at y p' L [.int (if a < b then b else a)] Z I J := g_lim_nx (by rw [h]; rfl)
theorem gq_abs {a : Int32} (h : g_Pg y pc = ga_abs p') : g_at y pc L [.int a] Z I J = g_at y p' L [.int (if 0 ≤ a then a else 0 - a)] Z I J := g_lim_nx (by rw [h]; rfl)
theorem gq_copy {a b : Nat} (h : g_Pg y pc = ga_copy p') (ha : gKd Z a = (8, 10)) (hb : gKd Z b = (8, 10)) : g_at y pc L [.int 10, .int 0, .ref a, .int 0, .ref b] Z I J = g_at y p' L [] Z (va_up I a (va_cpy (I b) (I a) 0 0 10)) J := g_lim_nx (by rw [h]; exact if_pos ⟨ha, hb, rfl, rfl, rfl⟩)
theorem gq_call {z n : Nat} {As S' E : List Value} (h : g_Pg y pc = ga_call z n p') (hn : decide (n ≤ S.length ∧ ((S.drop n).map Value.category).sum ≤ 8) = true) (hA : (S.take n).reverse = As) (hS : S.drop n = S') (hE : gEn (g_Ms z).2.2.1 As = E) (hl : decide (E.length = (g_Ms z).2.2.1) = true) : g_at y pc L S Z I J = (g_at z 0 E [] Z I J).bind (fun r => g_at y p' L (r.1.toList ++ S') r.2.1 r.2.2.1 r.2.2.2) := by
  subst hA; subst hS; subst hE
  exact g_lim_ca (by rw [h]; exact if_pos (of_decide_eq_true hn)) (of_decide_eq_true hl)
theorem gq_callV {ci z n a : Nat} {As S' E : List Value} (h : g_Pg y pc = ga_callV ci z n p') (hr : S[n]? = some (.ref a)) (hc : Nat.beq ci 12 = false) (ha : (gKd Z a).1 = ci) (hn : decide (((S.drop (n + 1)).map Value.category).sum ≤ 8) = true) (hA : .ref a :: (S.take n).reverse = As) (hS : S.drop (n + 1) = S') (hE : gEn (g_Ms z).2.2.1 As = E) (hl : decide (E.length = (g_Ms z).2.2.1) = true) : g_at y pc L S Z I J = (g_at z 0 E [] Z I J).bind (fun r => g_at y p' L (r.1.toList ++ S') r.2.1 r.2.2.1 r.2.2.2) := by
  subst hA; subst hS; subst hE
  refine g_lim_ca ?_ (of_decide_eq_true hl)
  rw [h]
  simp only [ga_callV, hr]
  exact if_pos ⟨⟨ha, fun e => by rw [e] at hc; cases hc⟩, of_decide_eq_true hn⟩
theorem gq_callT {z n a : Nat} {As S' E : List Value} (h : g_Pg y pc = ga_callV 12 z n p') (hr : S[n]? = some (.ref a)) (ha : (gKd Z a).1 = 12) (h1 : 1000 ≤ a) (hn : decide (((S.drop (n + 1)).map Value.category).sum ≤ 8) = true) (hA : .ref a :: (S.take n).reverse = As) (hS : S.drop (n + 1) = S') (hE : gEn (g_Ms z).2.2.1 As = E) (hl : decide (E.length = (g_Ms z).2.2.1) = true) : g_at y pc L S Z I J = (g_at z 0 E [] Z I J).bind (fun r => g_at y p' L (r.1.toList ++ S') r.2.1 r.2.2.1 r.2.2.2) := by
  subst hA; subst hS; subst hE
  refine g_lim_ca ?_ (of_decide_eq_true hl)
  rw [h]
  simp only [ga_callV, hr]
  exact if_pos ⟨⟨ha, fun _ => h1⟩, of_decide_eq_true hn⟩
theorem gq_callI {z n a : Nat} {As S' E : List Value} (h : g_Pg y pc = ga_callI z n p') (hr : S[n]? = some (.ref a)) (hn : decide (((S.drop (n + 1)).map Value.category).sum ≤ 8) = true) (hA : .ref a :: (S.take n).reverse = As) (hS : S.drop (n + 1) = S') (hE : gEn (g_Ms z).2.2.1 As = E) (hl : decide (E.length = (g_Ms z).2.2.1) = true) : g_at y pc L S Z I J = (g_at z 0 E [] Z I J).bind (fun r => g_at y p' L (r.1.toList ++ S') r.2.1 r.2.2.1 r.2.2.2) := by
  subst hA; subst hS; subst hE
  refine g_lim_ca ?_ (of_decide_eq_true hl)
  rw [h]
  simp only [ga_callI, hr]
  exact if_pos (of_decide_eq_true hn)
end GQ
