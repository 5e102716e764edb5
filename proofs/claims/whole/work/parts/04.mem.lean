/-! THE INSTRUCTIONS that read and write cells -/
def ga_getI (ci k p' : Nat) : gAc := fun L S Z I J => match S with
  | .ref a :: S => if (Z.2.2.1 a).1 = ci then some (.inl (p', L, .int (I a k) :: S, Z, I, J)) else none
  | _ => none
def ga_getL (ci k p' : Nat) : gAc := fun L S Z I J => match S with
  | .ref a :: S => if (Z.2.2.1 a).1 = ci then some (.inl (p', L, .long (J a k) :: S, Z, I, J)) else none
  | _ => none
def ga_getR (ci k p' : Nat) : gAc := fun L S Z I J => match S with
  | .ref a :: S => if (Z.2.2.1 a).1 = ci then (match Z.2.2.2 a k with
    | some q => some (.inl (p', L, .ref q :: S, Z, I, J))
    | none => none) else none
  | _ => none
def ga_putI (ci k p' : Nat) : gAc := fun L S Z I J => match S with
  | .int x :: .ref a :: S => if (Z.2.2.1 a).1 = ci then some (.inl (p', L, S, Z, va_up I a (va_up (I a) k x), J)) else none
  | _ => none
def ga_putL (ci k p' : Nat) : gAc := fun L S Z I J => match S with
  | .long x :: .ref a :: S => if (Z.2.2.1 a).1 = ci then some (.inl (p', L, S, Z, I, va_up J a (va_up (J a) k x))) else none
  | _ => none
def ga_putR (ci k p' : Nat) : gAc := fun L S Z I J => match S with
  | .ref q :: .ref a :: S => if (Z.2.2.1 a).1 = ci then some (.inl (p', L, S, (Z.1, Z.2.1, Z.2.2.1, va_up Z.2.2.2 a (va_up (Z.2.2.2 a) k (some q))), I, J)) else none
  | _ => none
def ga_iald (p' : Nat) : gAc := fun L S Z I J => match S with
  | .int i :: .ref a :: S => if ((Z.2.2.1 a).1 = 8 ∨ ((Z.2.2.1 a).1 = 14 ∧ 1000 ≤ a)) ∧ 0 ≤ i ∧ i.toNatClampNeg < (Z.2.2.1 a).2 then some (.inl (p', L, .int (I a i.toNatClampNeg) :: S, Z, I, J)) else none
  | _ => none
def ga_bald (p' : Nat) : gAc := fun L S Z I J => match S with
  | .int i :: .ref a :: S => if ((Z.2.2.1 a).1 = 9 ∨ ((Z.2.2.1 a).1 = 13 ∧ 1000 ≤ a)) ∧ 0 ≤ i ∧ i.toNatClampNeg < (Z.2.2.1 a).2 then some (.inl (p', L, .int (I a i.toNatClampNeg) :: S, Z, I, J)) else none
  | _ => none
def ga_lald (p' : Nat) : gAc := fun L S Z I J => match S with
  | .int i :: .ref a :: S => if (Z.2.2.1 a).1 = 10 ∧ 0 ≤ i ∧ i.toNatClampNeg < (Z.2.2.1 a).2 then some (.inl (p', L, .long (J a i.toNatClampNeg) :: S, Z, I, J)) else none
  | _ => none
def ga_aald (p' : Nat) : gAc := fun L S Z I J => match S with
  | .int i :: .ref a :: S => if (Z.2.2.1 a).1 = 11 ∧ 0 ≤ i ∧ i.toNatClampNeg < (Z.2.2.1 a).2 then (match Z.2.2.2 a i.toNatClampNeg with
    | some q => some (.inl (p', L, .ref q :: S, Z, I, J))
    | none => none) else none
  | _ => none
def ga_iast (p' : Nat) : gAc := fun L S Z I J => match S with
  | .int x :: .int i :: .ref a :: S => if (Z.2.2.1 a).1 = 8 ∧ 0 ≤ i ∧ i.toNatClampNeg < (Z.2.2.1 a).2 then some (.inl (p', L, S, Z, va_up I a (va_up (I a) i.toNatClampNeg x), J)) else none
  | _ => none
def ga_bast (p' : Nat) : gAc := fun L S Z I J => match S with
  | .int x :: .int i :: .ref a :: S => if (Z.2.2.1 a).1 = 9 ∧ 0 ≤ i ∧ i.toNatClampNeg < (Z.2.2.1 a).2 ∧ (x = 0 ∨ x = 1) then some (.inl (p', L, S, Z, va_up I a (va_up (I a) i.toNatClampNeg x), J)) else none
  | _ => none
def ga_last (p' : Nat) : gAc := fun L S Z I J => match S with
  | .long x :: .int i :: .ref a :: S => if (Z.2.2.1 a).1 = 10 ∧ 0 ≤ i ∧ i.toNatClampNeg < (Z.2.2.1 a).2 then some (.inl (p', L, S, Z, I, va_up J a (va_up (J a) i.toNatClampNeg x))) else none
  | _ => none
def ga_aast (p' : Nat) : gAc := fun L S Z I J => match S with
  | .ref q :: .int i :: .ref a :: S => if (Z.2.2.1 a).1 = 11 ∧ 0 ≤ i ∧ i.toNatClampNeg < (Z.2.2.1 a).2 ∧ (Z.2.2.1 q).1 = 2 then some (.inl (p', L, S, (Z.1, Z.2.1, Z.2.2.1, va_up Z.2.2.2 a (va_up (Z.2.2.2 a) i.toNatClampNeg (some q))), I, J)) else none
  | _ => none
def ga_alen (p' : Nat) : gAc := fun L S Z I J => match S with
  | .ref a :: S => if (8 ≤ (Z.2.2.1 a).1 ∧ (Z.2.2.1 a).1 < 12) ∨ (((Z.2.2.1 a).1 = 13 ∨ (Z.2.2.1 a).1 = 14) ∧ 1000 ≤ a) then some (.inl (p', L, .int (Int32.ofNat (Z.2.2.1 a).2) :: S, Z, I, J)) else none
  | _ => none
def ga_new (ci n p' : Nat) : gAc := fun L S Z I J => if Z.1 < 1000 then some (.inl (p', L, .ref Z.1 :: S, (Z.1 + 1, Z.2.1 + n, va_up Z.2.2.1 Z.1 (ci, 0), va_up Z.2.2.2 Z.1 (fun _ => none)), va_up I Z.1 (fun _ => 0), va_up J Z.1 (fun _ => 0))) else none
def ga_newa (tag p' : Nat) : gAc := fun L S Z I J => match S with
  | .int n :: S => if Z.1 < 1000 ∧ 0 ≤ n ∧ n.toNatClampNeg ≤ 1000 then some (.inl (p', L, .ref Z.1 :: S, (Z.1 + 1, Z.2.1 + n.toNatClampNeg, va_up Z.2.2.1 Z.1 (tag, n.toNatClampNeg), va_up Z.2.2.2 Z.1 (fun _ => none)), va_up I Z.1 (fun _ => 0), va_up J Z.1 (fun _ => 0))) else none
  | _ => none
def ga_gets (v : Value) (p' : Nat) : gAc := ga_push v p'
def ga_getS (p' : Nat) : gAc := fun L S Z I J => match S with
  | .ref a :: S => if (Z.2.2.1 a).1 = 12 ∧ 1000 ≤ a then some (.inl (p', L, .ref (a + 20) :: S, Z, I, J)) else none
  | _ => none
def ga_getC (p' : Nat) : gAc := fun L S Z I J => match S with
  | .ref a :: S => if (Z.2.2.1 a).1 = 12 ∧ 1000 ≤ a then some (.inl (p', L, .int 0 :: S, Z, I, J)) else none
  | _ => none
def ga_oinit (p' : Nat) : gAc := fun L S Z I J => match S with
  | [.ref _] => some (.inl (p', L, [], Z, I, J))
  | _ => none
def ga_max (p' : Nat) : gAc := fun L S Z I J => match S with
  | [.int y, .int x] => some (.inl (p', L, [.int (if x < y then y else x)], Z, I, J))
  | _ => none
def ga_abs (p' : Nat) : gAc := fun L S Z I J => match S with
  | [.int x] => some (.inl (p', L, [.int (if 0 ≤ x then x else 0 - x)], Z, I, J))
  | _ => none
/-- System.arraycopy of a whole int array of ten -/
def ga_copy (p' : Nat) : gAc := fun L S Z I J => match S with
  | [.int n, .int dp, .ref a, .int sp, .ref a0] => if Z.2.2.1 a = (8, 10) ∧ Z.2.2.1 a0 = (8, 10) ∧ n = 10 ∧ dp = 0 ∧ sp = 0 then some (.inl (p', L, [], Z, va_up I a (va_cpy (I a0) (I a) 0 0 10), J)) else none
  | _ => none
def ga_call (z n p' : Nat) : gAc := fun _ S _ _ _ => if n ≤ S.length ∧ ((S.drop n).map Value.category).sum ≤ 8 then some (.inr (.inr (z, (S.take n).reverse, p', S.drop n))) else none
def ga_callV (ci z n p' : Nat) : gAc := fun _ S Z _ _ => match S[n]? with
  | some (.ref a) => if ((Z.2.2.1 a).1 = ci ∧ (ci = 12 → 1000 ≤ a)) ∧ ((S.drop (n + 1)).map Value.category).sum ≤ 8 then some (.inr (.inr (z, .ref a :: (S.take n).reverse, p', S.drop (n + 1)))) else none
  | _ => none
def ga_callI (z n p' : Nat) : gAc := fun _ S _ _ _ => match S[n]? with
  | some (.ref a) => if ((S.drop (n + 1)).map Value.category).sum ≤ 8 then some (.inr (.inr (z, .ref a :: (S.take n).reverse, p', S.drop (n + 1)))) else none
  | _ => none
/-- a class: its place, its name, its fields, their types -/
def gCls (ci : Nat) (C : String) (T : u_T) (N : Nat) (ty : Nat → FieldType) : Prop :=
  vwCl[ci]? = some (C, T, N) ∧ (∀ w ∈ u_ws C T N, w ∈ g_G) ∧ (∀ k, k < N → parseFieldDescriptor (T k).2.2.1 = some (ty k)) ∧ (∀ a, a < N → ∀ b, b < N → a ≠ b → (T a).2.1 ≠ (T b).2.1) ∧ Cond.instantiable C N ∈ g_G ∧ Cond.initialized C ∈ g_G ∧ ci < 8 ∧ gnf ci = N ∧ (∀ k, k < N → (T k).1 = C) ∧ (∀ k, k < N → defaultValue (ty k) = match gft ci k with
  | 0 => .int 0
  | 1 => .long 0
  | _ => .null)
section GM
variable {K : gC} {Ms : Nat → gM} {M : gM} {pc p' : Nat}
theorem gE_obj {Z : gZ} {I : gI} {J : gJ} {a : Nat} (h : (Z.2.2.1 a).1 < 8) : gE K Z I J a = .inr ((Z.2.2.1 a).1, (List.range (gnf (Z.2.2.1 a).1)).map (fun k => gFd K Z I J a k (gft (Z.2.2.1 a).1 k))) := if_pos h
theorem gE_int {Z : gZ} {I : gI} {J : gJ} {a : Nat} (h : (Z.2.2.1 a).1 = 8 ∨ (Z.2.2.1 a).1 = 9) : gE K Z I J a = .inl (K.2.1 (Z.2.2.1 a).1, (Z.2.2.1 a).2, .inl (I a)) := by
  unfold gE
  rw [if_neg (by omega), if_neg (by omega), if_neg (by omega)]
theorem gE_long {Z : gZ} {I : gI} {J : gJ} {a : Nat} (h : (Z.2.2.1 a).1 = 10) : gE K Z I J a = .inl (K.2.1 10, (Z.2.2.1 a).2, .inr (.inl (J a))) := by
  unfold gE
  rw [if_neg (by omega), if_pos (by omega)]
theorem gE_ref {Z : gZ} {I : gI} {J : gJ} {a : Nat} (h : (Z.2.2.1 a).1 = 11) : gE K Z I J a = .inl (K.2.1 11, (Z.2.2.1 a).2, .inr (.inr (.inr (.inr (fun j => (Z.2.2.2 a j).map (gAd K)))))) := by
  unfold gE
  rw [if_neg (by omega), if_neg (by omega), if_pos (by omega)]
/-- what a cell shows depends on its own row alone -/
theorem gE_cong {Z Z' : gZ} {I I' : gI} {J J' : gJ} {a : Nat} (h1 : Z'.2.2.1 a = Z.2.2.1 a) (h2 : Z'.2.2.2 a = Z.2.2.2 a) (h3 : I' a = I a) (h4 : J' a = J a) : gE K Z' I' J' a = gE K Z I J a := by
  unfold gE gFd
  rw [h1, h2, h3, h4]
theorem up_ne {α : Type} {f : Nat → α} {k j : Nat} {v : α} (h : j ≠ k) : va_up f k v j = f j := if_neg h
theorem up_eq {α : Type} {f : Nat → α} {k : Nat} {v : α} : va_up f k v k = v := if_pos rfl
theorem gH.lt {Z : gZ} {I : gI} {J : gJ} {H : Heap} (h : gH K Z I J H) {a : Nat} (ha : (Z.2.2.1 a).1 < 12) : a < Z.1 := h.2.2.2.1 a ha
theorem gH.at {Z : gZ} {I : gI} {J : gJ} {H : Heap} (h : gH K Z I J H) {a : Nat} (ha : (Z.2.2.1 a).1 < 12) : (gW K Z I J)[a]? = some (gAd K a, gE K Z I J a) := gW_at (h.lt ha)
/-- one cell is written: the ints -/
theorem gH.wI {Z : gZ} {I : gI} {J : gJ} {H H1 : Heap} (h : gH K Z I J H) {a : Nat} (ha : (Z.2.2.1 a).1 < 12) {f : Nat → Int32} {e : va_E} (he : gE K Z (va_up I a f) J a = e) (hP : va_P K.1 vwCl ((gW K Z I J).set a (gAd K a, e)) H1) : gH0 K Z (va_up I a f) J H1 := by
  have hl := h.lt ha
  refine ⟨?_, h.2.2.1, h.2.2.2.1, fun k hk => ⟨(h.2.2.2.2 k hk).1, ?_⟩⟩
  · rw [← gW_set (Z := Z) (I := I) (J := J) hl rfl he (fun j _ hj => gE_cong rfl rfl (up_ne hj) rfl)]; exact hP
  · have := h.2.2.1
    rw [up_ne (by omega)]; exact (h.2.2.2.2 k hk).2
theorem gH.wJ {Z : gZ} {I : gI} {J : gJ} {H H1 : Heap} (h : gH K Z I J H) {a : Nat} (ha : (Z.2.2.1 a).1 < 12) {f : Nat → Int64} {e : va_E} (he : gE K Z I (va_up J a f) a = e) (hP : va_P K.1 vwCl ((gW K Z I J).set a (gAd K a, e)) H1) : gH0 K Z I (va_up J a f) H1 := by
  have hl := h.lt ha
  refine ⟨?_, h.2.2.1, h.2.2.2.1, h.2.2.2.2⟩
  rw [← gW_set (Z := Z) (I := I) (J := J) hl rfl he (fun j _ hj => gE_cong rfl rfl rfl (up_ne hj))]; exact hP
theorem gH.wR {Z : gZ} {I : gI} {J : gJ} {H H1 : Heap} (h : gH K Z I J H) {a : Nat} (ha : (Z.2.2.1 a).1 < 12) {f : Nat → Option Nat} {e : va_E} (he : gE K (Z.1, Z.2.1, Z.2.2.1, va_up Z.2.2.2 a f) I J a = e) (hP : va_P K.1 vwCl ((gW K Z I J).set a (gAd K a, e)) H1) : gH0 K (Z.1, Z.2.1, Z.2.2.1, va_up Z.2.2.2 a f) I J H1 := by
  have hl := h.lt ha
  refine ⟨?_, h.2.2.1, h.2.2.2.1, h.2.2.2.2⟩
  rw [← gW_set (Z := Z) (I := I) (J := J) (Z' := (Z.1, Z.2.1, Z.2.2.1, va_up Z.2.2.2 a f)) hl rfl he (fun j _ hj => gE_cong rfl (up_ne hj) rfl rfl)]; exact hP
theorem vin_of {i : Int32} {n : Nat} (h0 : 0 ≤ i) (h : i.toNatClampNeg < n) : vp_in i n := fun q => by
  rcases q with q | q
  · exact absurd h0 (Int32.not_le.mpr q)
  · omega
theorem fs_get {n k : Nat} {f : Nat → Value} (h : k < n) : ((List.range n).map f)[k]? = some (f k) := by simp [h]
theorem fs_set {n k : Nat} {f g : Nat → Value} {v : Value} (hv : g k = v) (ho : ∀ j, j ≠ k → g j = f j) : ((List.range n).map f).set k v = (List.range n).map g := by
  apply List.ext_getElem?
  intro j
  rw [List.getElem?_set]
  by_cases hj : j < n
  · by_cases e : k = j
    · subst e
      simp [hj, hv]
    · rw [if_neg e]
      simp [hj, ho j (fun h => e h.symm)]
  · by_cases e : k = j
    · subst e; simp [hj]
    · rw [if_neg e]; simp [hj]
theorem gs_getI {ci k idx : Nat} {C : String} {T : u_T} {N : Nat} {ty : Nat → FieldType} (hc : gCls ci C T N ty) (hk : k < N) (hf : gft ci k = 0) (hl : Cond.fieldLink M.1.cls idx (T k).1 (T k).2.1 (T k).2.2.1 ∈ g_G) (hd : decode M.2.1 pc = .ok (.getfield idx, 3)) (hp : pc + 3 = p') : gOk K Ms M pc (ga_getI ci k p') := gs_of fun L S Z I J => by
  unfold ga_getI
  split
  · rename_i a S
    split
    · rename_i ha
      refine Or.inl ⟨_, _, rfl, fun p l e R s m args below meth c H locs ls cells slots Q hX hH hS hL kk => ?_⟩
      subst hp
      have h8 : (Z.2.2.1 a).1 < 8 := by have := hc.2.2.2.2.2.2.1; omega
      have he := hH.at (a := a) (by omega)
      rw [gE_obj h8, ha] at he
      exact va_get hX.1 hX.2.1 hX.2.2.2.2.1 hc.2.1 hX.2.2.2.1 hX.2.2.2.2.2.2.2.2.1 hH.2.1 a he hc.1 k hk (hX.2.2.2.2.1 _ hl) (fun _ h => h) (v := .int (I a k)) ((fs_get (by rw [hc.2.2.2.2.2.2.2.1]; exact hk)).trans (by rw [hf]; rfl)) hd kk
    · exact Or.inr rfl
  · exact Or.inr rfl
theorem gs_getL {ci k idx : Nat} {C : String} {T : u_T} {N : Nat} {ty : Nat → FieldType} (hc : gCls ci C T N ty) (hk : k < N) (hf : gft ci k = 1) (hl : Cond.fieldLink M.1.cls idx (T k).1 (T k).2.1 (T k).2.2.1 ∈ g_G) (hd : decode M.2.1 pc = .ok (.getfield idx, 3)) (hp : pc + 3 = p') : gOk K Ms M pc (ga_getL ci k p') := gs_of fun L S Z I J => by
  unfold ga_getL
  split
  · rename_i a S
    split
    · rename_i ha
      refine Or.inl ⟨_, _, rfl, fun p l e R s m args below meth c H locs ls cells slots Q hX hH hS hL kk => ?_⟩
      subst hp
      have h8 : (Z.2.2.1 a).1 < 8 := by have := hc.2.2.2.2.2.2.1; omega
      have he := hH.at (a := a) (by omega)
      rw [gE_obj h8, ha] at he
      exact va_get hX.1 hX.2.1 hX.2.2.2.2.1 hc.2.1 hX.2.2.2.1 hX.2.2.2.2.2.2.2.2.1 hH.2.1 a he hc.1 k hk (hX.2.2.2.2.1 _ hl) (fun _ h => h) (v := .long (J a k)) ((fs_get (by rw [hc.2.2.2.2.2.2.2.1]; exact hk)).trans (by rw [hf]; rfl)) hd kk
    · exact Or.inr rfl
  · exact Or.inr rfl
theorem gs_getR {ci k idx : Nat} {C : String} {T : u_T} {N : Nat} {ty : Nat → FieldType} (hc : gCls ci C T N ty) (hk : k < N) (hf : gft ci k = 2) (hl : Cond.fieldLink M.1.cls idx (T k).1 (T k).2.1 (T k).2.2.1 ∈ g_G) (hd : decode M.2.1 pc = .ok (.getfield idx, 3)) (hp : pc + 3 = p') : gOk K Ms M pc (ga_getR ci k p') := gs_of fun L S Z I J => by
  unfold ga_getR
  split
  · rename_i a S
    split
    · rename_i ha
      split
      · rename_i q hq
        refine Or.inl ⟨_, _, rfl, fun p l e R s m args below meth c H locs ls cells slots Q hX hH hS hL kk => ?_⟩
        subst hp
        have h8 : (Z.2.2.1 a).1 < 8 := by have := hc.2.2.2.2.2.2.1; omega
        have he := hH.at (a := a) (by omega)
        rw [gE_obj h8, ha] at he
        exact va_get hX.1 hX.2.1 hX.2.2.2.2.1 hc.2.1 hX.2.2.2.1 hX.2.2.2.2.2.2.2.2.1 hH.2.1 a he hc.1 k hk (hX.2.2.2.2.1 _ hl) (fun _ h => h) (v := .ref (gAd K q)) ((fs_get (by rw [hc.2.2.2.2.2.2.2.1]; exact hk)).trans (by rw [hf]; simp [gFd, hq, va_rf])) hd kk
      · exact Or.inr rfl
    · exact Or.inr rfl
  · exact Or.inr rfl
/-- the world changes, cells and slots stay in number -/
theorem gs_ofW {a : gAc} (h : ∀ L S Z I J, (∃ p' S' Z' I' J', a L S Z I J = some (.inl (p', L, S', Z', I', J')) ∧ Z'.1 = Z.1 ∧ Z'.2.1 = Z.2.1 ∧
    ∀ (p : Program) (l : Launch) (e : Env) (R : Room) (s : State) (m : MethodId) (args : Array Value) (below : List Frame) (meth : Method) (c : Code) (H : Heap) (locs : List Loc) (ls : Array Slot) (cells slots : Nat) (Q : State → Prop),
      gX K M p R s m args meth c → gH K Z I J H → va_S (gA K) s.heap H locs → gLs K M.2.2.1 ls L →
      (∀ H' locs', gH0 K Z' I' J' H' → va_S (gA K) s.heap H' locs' → W p l e R s m args below meth c H' locs' cells slots Q (F0 m p' ls (S'.map (gCv K)))) → W p l e R s m args below meth c H locs cells slots Q (F0 m pc ls (S.map (gCv K)))) ∨ a L S Z I J = none) : gOk K Ms M pc a := by
  intro L S Z I J
  rcases h L S Z I J with ⟨p1, S1, Z1, I1, J1, he, e1, e2, hw⟩ | he
  · refine ⟨fun p' L' S' Z' I' J' h => ?_, fun _ h => (by rw [he] at h; cases h), fun _ _ _ _ h => (by rw [he] at h; cases h)⟩
    rw [he] at h
    cases h
    refine ⟨by omega, by omega, fun p l e R s m args below meth c H locs ls N0 T0 Q hX hH hS hL hs hN _ _ _ kk => hw p l e R s m args below meth c H locs ls _ _ Q hX hH hS hL (fun H' locs' hH' hS' => ?_)⟩
    rw [← e1, ← e2]
    exact g_sz hs (by omega) hH' hS' (fun hH' => kk H' locs' ls hH' hS' hL)
  · exact ⟨fun _ _ _ _ _ _ h => (by rw [he] at h; cases h), fun _ h => (by rw [he] at h; cases h), fun _ _ _ _ h => (by rw [he] at h; cases h)⟩
theorem gs_putI {ci k idx : Nat} {C : String} {T : u_T} {N : Nat} {ty : Nat → FieldType} (hc : gCls ci C T N ty) (hk : k < N) (hf : gft ci k = 0) (ht : ty k = .int) (hfin : (T k).2.2.2 = false) (hl : Cond.fieldLink M.1.cls idx (T k).1 (T k).2.1 (T k).2.2.1 ∈ g_G) (hd : decode M.2.1 pc = .ok (.putfield idx, 3)) (hp : pc + 3 = p') : gOk K Ms M pc (ga_putI ci k p') := gs_ofW fun L S Z I J => by
  unfold ga_putI
  split
  · rename_i x a S
    split
    · rename_i ha
      refine Or.inl ⟨_, _, _, _, _, rfl, rfl, rfl, fun p l e R s m args below meth c H locs ls cells slots Q hX hH hS hL kk => ?_⟩
      subst hp
      have h8 : (Z.2.2.1 a).1 < 8 := by have := hc.2.2.2.2.2.2.1; omega
      have he := hH.at (a := a) (by omega)
      rw [gE_obj h8, ha] at he
      have hkn : k < gnf ci := by rw [hc.2.2.2.2.2.2.2.1]; exact hk
      refine va_put (v := .int x) hX.1 hX.2.1 hX.2.2.2.2.1 hc.2.1 ty hc.2.2.1 hc.2.2.2.1 hX.2.2.2.1 hX.2.2.2.2.2.2.2.2.1 hH.2.1 (gW_D hH.2.2.1) hS a he hc.1 k hk (hX.2.2.2.2.1 _ hl) (fun _ h => h) hfin (hc.2.2.1 k hk) (by rw [ht]; rfl) (by rw [ht]; rfl) (by simp [hkn]) hd (fun H1 locs1 hP1 _ hS1 => kk H1 locs1 (hH.wI (by omega) ?_ hP1) hS1)
      rw [gE_obj h8, ha]
      congr 2
      symm
      refine fs_set ?_ (fun j hj => ?_)
      · rw [hf]; simp [gFd, up_eq]
      · unfold gFd
        simp only [up_eq, up_ne hj]
    · exact Or.inr rfl
  · exact Or.inr rfl
theorem gs_putL {ci k idx : Nat} {C : String} {T : u_T} {N : Nat} {ty : Nat → FieldType} (hc : gCls ci C T N ty) (hk : k < N) (hf : gft ci k = 1) (ht : ty k = .long) (hfin : (T k).2.2.2 = false) (hl : Cond.fieldLink M.1.cls idx (T k).1 (T k).2.1 (T k).2.2.1 ∈ g_G) (hd : decode M.2.1 pc = .ok (.putfield idx, 3)) (hp : pc + 3 = p') : gOk K Ms M pc (ga_putL ci k p') := gs_ofW fun L S Z I J => by
  unfold ga_putL
  split
  · rename_i x a S
    split
    · rename_i ha
      refine Or.inl ⟨_, _, _, _, _, rfl, rfl, rfl, fun p l e R s m args below meth c H locs ls cells slots Q hX hH hS hL kk => ?_⟩
      subst hp
      have h8 : (Z.2.2.1 a).1 < 8 := by have := hc.2.2.2.2.2.2.1; omega
      have he := hH.at (a := a) (by omega)
      rw [gE_obj h8, ha] at he
      have hkn : k < gnf ci := by rw [hc.2.2.2.2.2.2.2.1]; exact hk
      refine va_put (v := .long x) hX.1 hX.2.1 hX.2.2.2.2.1 hc.2.1 ty hc.2.2.1 hc.2.2.2.1 hX.2.2.2.1 hX.2.2.2.2.2.2.2.2.1 hH.2.1 (gW_D hH.2.2.1) hS a he hc.1 k hk (hX.2.2.2.2.1 _ hl) (fun _ h => h) hfin (hc.2.2.1 k hk) (by rw [ht]; rfl) (by rw [ht]; rfl) (by simp [hkn]) hd (fun H1 locs1 hP1 _ hS1 => kk H1 locs1 (hH.wJ (by omega) ?_ hP1) hS1)
      rw [gE_obj h8, ha]
      congr 2
      symm
      refine fs_set ?_ (fun j hj => ?_)
      · rw [hf]; simp [gFd, up_eq]
      · unfold gFd
        simp only [up_eq, up_ne hj]
    · exact Or.inr rfl
  · exact Or.inr rfl
/-- a reference into a final field, in a constructor -/
theorem gs_putR {ci k idx : Nat} {C : String} {T : u_T} {N : Nat} {ty : Nat → FieldType} (hc : gCls ci C T N ty) (hk : k < N) (hf : gft ci k = 2) (ht : ∀ a, narrow (ty k) (.ref a) = .ref a ∧ fits (ty k) (.ref a) = true) (hfin : (T k).2.2.2 = true) (hM : M.1.name = "<init>") (hown : (T k).1 = M.1.cls) (hl : Cond.fieldLink M.1.cls idx (T k).1 (T k).2.1 (T k).2.2.1 ∈ g_G) (hd : decode M.2.1 pc = .ok (.putfield idx, 3)) (hp : pc + 3 = p') : gOk K Ms M pc (ga_putR ci k p') := gs_ofW fun L S Z I J => by
  unfold ga_putR
  split
  · rename_i q a S
    split
    · rename_i ha
      refine Or.inl ⟨_, _, _, _, _, rfl, rfl, rfl, fun p l e R s m args below meth c H locs ls cells slots Q hX hH hS hL kk => ?_⟩
      subst hp
      have h8 : (Z.2.2.1 a).1 < 8 := by have := hc.2.2.2.2.2.2.1; omega
      have he := hH.at (a := a) (by omega)
      rw [gE_obj h8, ha] at he
      have hkn : k < gnf ci := by rw [hc.2.2.2.2.2.2.2.1]; exact hk
      refine va_putF (v := .ref (gAd K q)) hX.1 hX.2.1 hX.2.2.2.2.1 hc.2.1 ty hc.2.2.1 hc.2.2.2.1 hX.2.2.2.1 hX.2.2.2.2.2.2.2.2.1 hH.2.1 (gW_D hH.2.2.1) hS a he hc.1 k hk (hX.2.2.2.2.1 _ hl) (fun _ h => h) hfin (hX.2.2.2.2.2.2.2.1 hM) hown (hc.2.2.1 k hk) (ht _).1 (ht _).2 (by simp [hkn]) hd (fun H1 locs1 hP1 _ hS1 => kk H1 locs1 (hH.wR (by omega) ?_ hP1) hS1)
      rw [gE_obj (Z := (Z.1, Z.2.1, Z.2.2.1, va_up Z.2.2.2 a (va_up (Z.2.2.2 a) k (some q)))) h8]
      show Sum.inr ((Z.2.2.1 a).1, _) = _
      rw [ha]
      congr 2
      symm
      refine fs_set ?_ (fun j hj => ?_)
      · rw [hf]; simp [gFd, up_eq, va_rf]
      · unfold gFd
        simp only [up_eq, up_ne hj]
    · exact Or.inr rfl
  · exact Or.inr rfl
theorem gs_iald (hd : decode M.2.1 pc = .ok (.iaload, 1)) (hp : pc + 1 = p') : gOk K Ms M pc (ga_iald p') := gs_of fun L S Z I J => by
  unfold ga_iald
  split
  · rename_i i a S
    split
    · rename_i ha
      obtain ⟨ha, h0, hi⟩ := ha
      refine Or.inl ⟨_, _, rfl, fun p l e R s m args below meth c H locs ls cells slots Q hX hH hS hL kk => ?_⟩
      subst hp
      rcases ha with ha | ha
      · have he := hH.at (a := a) (by omega)
        rw [gE_int (Or.inl ha), ha] at he
        exact va_iald hX.1 hX.2.1 hX.2.2.2.2.2.2.2.2.1 hH.2.1 a 0 he rfl (vin_of h0 hi) hd kk
      · obtain ⟨ha, hlo⟩ := ha
        obtain ⟨e1, e2⟩ := hH.2.2.2.2 a hlo
        have hT := hX.2.2.2.2.2.2.2.2.2.1.1 a (Z.2.2.1 a).2 hlo (by rw [← e1, ← ha])
        exact va_ti hX.1 hX.2.1 hT hS (vin_of h0 hi) (v := .int (I a i.toNatClampNeg)) (by rw [e2]) hd kk
    · exact Or.inr rfl
  · exact Or.inr rfl
theorem gs_zald (hd : decode M.2.1 pc = .ok (.baload, 1)) (hp : pc + 1 = p') : gOk K Ms M pc (ga_bald p') := gs_of fun L S Z I J => by
  unfold ga_bald
  split
  · rename_i i a S
    split
    · rename_i ha
      obtain ⟨ha, h0, hi⟩ := ha
      refine Or.inl ⟨_, _, rfl, fun p l e R s m args below meth c H locs ls cells slots Q hX hH hS hL kk => ?_⟩
      subst hp
      rcases ha with ha | ha
      · have he := hH.at (a := a) (by omega)
        rw [gE_int (Or.inr ha), ha] at he
        exact va_zald hX.1 hX.2.1 hX.2.2.2.2.2.2.2.2.1 hH.2.1 a 1 he rfl (vin_of h0 hi) hd kk
      · obtain ⟨ha, hlo⟩ := ha
        obtain ⟨e1, e2⟩ := hH.2.2.2.2 a hlo
        have hT := hX.2.2.2.2.2.2.2.2.2.1.2.1 a (Z.2.2.1 a).2 hlo (by rw [← e1, ← ha])
        exact va_tb hX.1 hX.2.1 hT hS (vin_of h0 hi) (v := .int (I a i.toNatClampNeg)) (by rw [e2]) hd kk
    · exact Or.inr rfl
  · exact Or.inr rfl
theorem gs_lald (hd : decode M.2.1 pc = .ok (.laload, 1)) (hp : pc + 1 = p') : gOk K Ms M pc (ga_lald p') := gs_of fun L S Z I J => by
  unfold ga_lald
  split
  · rename_i i a S
    split
    · rename_i ha
      obtain ⟨ha, h0, hi⟩ := ha
      refine Or.inl ⟨_, _, rfl, fun p l e R s m args below meth c H locs ls cells slots Q hX hH hS hL kk => ?_⟩
      subst hp
      have he := hH.at (a := a) (by omega)
      rw [gE_long ha] at he
      exact va_lald hX.1 hX.2.1 hX.2.2.2.2.2.2.2.2.1 hH.2.1 a 2 he rfl (vin_of h0 hi) hd kk
    · exact Or.inr rfl
  · exact Or.inr rfl
theorem gs_aald (hd : decode M.2.1 pc = .ok (.aaload, 1)) (hp : pc + 1 = p') : gOk K Ms M pc (ga_aald p') := gs_of fun L S Z I J => by
  unfold ga_aald
  split
  · rename_i i a S
    split
    · rename_i ha
      obtain ⟨ha, h0, hi⟩ := ha
      split
      · rename_i q hq
        refine Or.inl ⟨_, _, rfl, fun p l e R s m args below meth c H locs ls cells slots Q hX hH hS hL kk => ?_⟩
        subst hp
        have he := hH.at (a := a) (by omega)
        rw [gE_ref ha] at he
        refine va_aldq hX.1 hX.2.1 hX.2.2.2.2.2.2.2.2.1 hH.2.1 a 3 he rfl (vin_of h0 hi) hd ?_
        rw [hq]
        exact kk
      · exact Or.inr rfl
    · exact Or.inr rfl
  · exact Or.inr rfl
theorem gs_iast (hd : decode M.2.1 pc = .ok (.iastore, 1)) (hp : pc + 1 = p') : gOk K Ms M pc (ga_iast p') := gs_ofW fun L S Z I J => by
  unfold ga_iast
  split
  · rename_i x i a S
    split
    · rename_i ha
      obtain ⟨ha, h0, hi⟩ := ha
      refine Or.inl ⟨_, _, _, _, _, rfl, rfl, rfl, fun p l e R s m args below meth c H locs ls cells slots Q hX hH hS hL kk => ?_⟩
      subst hp
      have he := hH.at (a := a) (by omega)
      rw [gE_int (Or.inl ha), ha] at he
      refine va_iast hX.1 hX.2.1 hX.2.2.2.2.2.2.2.2.1 hH.2.1 (gW_D hH.2.2.1) hS a 0 he rfl (vin_of h0 hi) hd (fun H1 locs1 hP1 _ hS1 => kk H1 locs1 (hH.wI (by omega) ?_ hP1) hS1)
      rw [gE_int (Or.inl ha), ha, up_eq]
      rfl
    · exact Or.inr rfl
  · exact Or.inr rfl
theorem gs_zast (hd : decode M.2.1 pc = .ok (.bastore, 1)) (hp : pc + 1 = p') : gOk K Ms M pc (ga_bast p') := gs_ofW fun L S Z I J => by
  unfold ga_bast
  split
  · rename_i x i a S
    split
    · rename_i ha
      obtain ⟨ha, h0, hi, hx⟩ := ha
      refine Or.inl ⟨_, _, _, _, _, rfl, rfl, rfl, fun p l e R s m args below meth c H locs ls cells slots Q hX hH hS hL kk => ?_⟩
      subst hp
      have he := hH.at (a := a) (by omega)
      rw [gE_int (Or.inr ha), ha] at he
      refine va_zast hX.1 hX.2.1 hX.2.2.2.2.2.2.2.2.1 hH.2.1 (gW_D hH.2.2.1) hS a 1 he rfl (vin_of h0 hi) hd (fun H1 locs1 hP1 _ hS1 => kk H1 locs1 (hH.wI (by omega) ?_ hP1) hS1)
      rw [gE_int (Or.inr ha), ha, up_eq]
      have hb : vp_nar .boolean x = x := by rcases hx with rfl | rfl <;> decide
      rw [hb]
      rfl
    · exact Or.inr rfl
  · exact Or.inr rfl
theorem gs_last (hd : decode M.2.1 pc = .ok (.lastore, 1)) (hp : pc + 1 = p') : gOk K Ms M pc (ga_last p') := gs_ofW fun L S Z I J => by
  unfold ga_last
  split
  · rename_i x i a S
    split
    · rename_i ha
      obtain ⟨ha, h0, hi⟩ := ha
      refine Or.inl ⟨_, _, _, _, _, rfl, rfl, rfl, fun p l e R s m args below meth c H locs ls cells slots Q hX hH hS hL kk => ?_⟩
      subst hp
      have he := hH.at (a := a) (by omega)
      rw [gE_long ha] at he
      refine va_last hX.1 hX.2.1 hX.2.2.2.2.2.2.2.2.1 hH.2.1 (gW_D hH.2.2.1) hS a 2 he rfl (vin_of h0 hi) hd (fun H1 locs1 hP1 _ hS1 => kk H1 locs1 (hH.wJ (by omega) ?_ hP1) hS1)
      rw [gE_long ha, up_eq]
      rfl
    · exact Or.inr rfl
  · exact Or.inr rfl
theorem gs_aast (hc : gCls 2 RX2 TX2 5 tyX2) (hd : decode M.2.1 pc = .ok (.aastore, 1)) (hp : pc + 1 = p') : gOk K Ms M pc (ga_aast p') := gs_ofW fun L S Z I J => by
  unfold ga_aast
  split
  · rename_i q i a S
    split
    · rename_i ha
      obtain ⟨ha, h0, hi, hq⟩ := ha
      refine Or.inl ⟨_, _, _, _, _, rfl, rfl, rfl, fun p l e R s m args below meth c H locs ls cells slots Q hX hH hS hL kk => ?_⟩
      subst hp
      have he := hH.at (a := a) (by omega)
      have hv := hH.at (a := q) (by omega)
      rw [gE_ref ha] at he
      rw [gE_obj (by omega), hq] at hv
      refine va_astq (r := (RX2, TX2, 5)) hX.1 hX.2.1 hX.2.2.2.2.2.2.2.2.1 hH.2.1 (gW_D hH.2.2.1) hS a 3 q 2 he rfl hv hc.1 (vin_of h0 hi) hd (fun H1 locs1 hP1 _ hS1 => kk H1 locs1 (hH.wR (by omega) ?_ hP1) hS1)
      rw [gE_ref (Z := (Z.1, Z.2.1, Z.2.2.1, va_up Z.2.2.2 a (va_up (Z.2.2.2 a) i.toNatClampNeg (some q)))) ha]
      simp only [up_eq]
      congr 7
      funext j
      by_cases hj : j = i.toNatClampNeg
      · subst hj; simp [up_eq]
      · simp [up_ne hj]
    · exact Or.inr rfl
  · exact Or.inr rfl
theorem gs_alen (hd : decode M.2.1 pc = .ok (.arraylength, 1)) (hp : pc + 1 = p') : gOk K Ms M pc (ga_alen p') := gs_of fun L S Z I J => by
  unfold ga_alen
  split
  · rename_i a S
    split
    · rename_i ha
      refine Or.inl ⟨_, _, rfl, fun p l e R s m args below meth c H locs ls cells slots Q hX hH hS hL kk => ?_⟩
      subst hp
      rcases ha with ha | ⟨ha, hlo⟩
      · have he := hH.at (a := a) (by omega)
        by_cases h8 : (Z.2.2.1 a).1 = 8
        · rw [gE_int (Or.inl h8), h8] at he
          exact va_alen hX.1 hX.2.1 hX.2.2.2.2.2.2.2.2.1 hH.2.1 a 0 he rfl rfl hd kk
        · by_cases h9 : (Z.2.2.1 a).1 = 9
          · rw [gE_int (Or.inr h9), h9] at he
            exact va_alen hX.1 hX.2.1 hX.2.2.2.2.2.2.2.2.1 hH.2.1 a 1 he rfl rfl hd kk
          · by_cases h10 : (Z.2.2.1 a).1 = 10
            · rw [gE_long h10] at he
              exact va_alen hX.1 hX.2.1 hX.2.2.2.2.2.2.2.2.1 hH.2.1 a 2 he rfl rfl hd kk
            · rw [gE_ref (by omega)] at he
              exact va_alen hX.1 hX.2.1 hX.2.2.2.2.2.2.2.2.1 hH.2.1 a 3 he rfl rfl hd kk
      · obtain ⟨e1, e2⟩ := hH.2.2.2.2 a hlo
        rcases ha with ha | ha
        · have hT := hX.2.2.2.2.2.2.2.2.2.1.2.1 a (Z.2.2.1 a).2 hlo (by rw [← e1, ← ha])
          exact va_tlen hX.1 hX.2.1 hT hS rfl hd kk
        · have hT := hX.2.2.2.2.2.2.2.2.2.1.1 a (Z.2.2.1 a).2 hlo (by rw [← e1, ← ha])
          exact va_tlen hX.1 hX.2.1 hT hS rfl hd kk
    · exact Or.inr rfl
  · exact Or.inr rfl
end GM
