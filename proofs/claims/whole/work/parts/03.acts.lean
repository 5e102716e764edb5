/-! THE INSTRUCTIONS as functions, and that they are the machine's: stack, locals, arithmetic, branches -/
def ga_none : gAc := fun _ _ _ _ _ => none
def ga_push (v : Value) (p' : Nat) : gAc := fun L S Z I J => some (.inl (p', L, v :: S, Z, I, J))
def ga_iload (i p' : Nat) : gAc := fun L S Z I J => match L[i]? with
  | some (.int x) => some (.inl (p', L, .int x :: S, Z, I, J))
  | _ => none
def ga_lload (i p' : Nat) : gAc := fun L S Z I J => match L[i]? with
  | some (.long x) => some (.inl (p', L, .long x :: S, Z, I, J))
  | _ => none
def ga_aload (i p' : Nat) : gAc := fun L S Z I J => match L[i]? with
  | some (.ref x) => some (.inl (p', L, .ref x :: S, Z, I, J))
  | _ => none
def ga_istore (i p' : Nat) : gAc := fun L S Z I J => match S with
  | .int x :: S => if gNl L i = true ∧ i < L.length then some (.inl (p', L.set i (.int x), S, Z, I, J)) else none
  | _ => none
def ga_astore (i p' : Nat) : gAc := fun L S Z I J => match S with
  | .ref x :: S => if gNl L i = true ∧ i < L.length then some (.inl (p', L.set i (.ref x), S, Z, I, J)) else none
  | _ => none
def ga_iinc (i : Nat) (n : Int32) (p' : Nat) : gAc := fun L S Z I J => match L[i]? with
  | some (.int x) => if gNl L i = true then some (.inl (p', L.set i (.int (x + n)), S, Z, I, J)) else none
  | _ => none
def ga_un (f : Int32 → Int32) (p' : Nat) : gAc := fun L S Z I J => match S with
  | .int x :: S => some (.inl (p', L, .int (f x) :: S, Z, I, J))
  | _ => none
def ga_bin (f : Int32 → Int32 → Int32) (p' : Nat) : gAc := fun L S Z I J => match S with
  | .int y :: .int x :: S => some (.inl (p', L, .int (f x y) :: S, Z, I, J))
  | _ => none
def ga_div (f : Int32 → Int32 → Int32) (p' : Nat) : gAc := fun L S Z I J => match S with
  | .int y :: .int x :: S => if y = 0 then none else some (.inl (p', L, .int (f x y) :: S, Z, I, J))
  | _ => none
def ga_lbin (f : Int64 → Int64 → Int64) (p' : Nat) : gAc := fun L S Z I J => match S with
  | .long y :: .long x :: S => some (.inl (p', L, .long (f x y) :: S, Z, I, J))
  | _ => none
def ga_lsh (f : Int64 → Int32 → Int64) (p' : Nat) : gAc := fun L S Z I J => match S with
  | .int y :: .long x :: S => some (.inl (p', L, .long (f x y) :: S, Z, I, J))
  | _ => none
def ga_lcmp (p' : Nat) : gAc := fun L S Z I J => match S with
  | .long y :: .long x :: S => some (.inl (p', L, .int (lg_cmp x y) :: S, Z, I, J))
  | _ => none
def ga_i2l (p' : Nat) : gAc := fun L S Z I J => match S with
  | .int x :: S => some (.inl (p', L, .long x.toInt64 :: S, Z, I, J))
  | _ => none
def ga_l2i (p' : Nat) : gAc := fun L S Z I J => match S with
  | .long x :: S => some (.inl (p', L, .int x.toInt32 :: S, Z, I, J))
  | _ => none
def ga_dup (p' : Nat) : gAc := fun L S Z I J => match S with
  | .ref x :: S => some (.inl (p', L, .ref x :: .ref x :: S, Z, I, J))
  | _ => none
def ga_dup2 (p' : Nat) : gAc := fun L S Z I J => match S with
  | .int y :: .ref x :: S => some (.inl (p', L, .int y :: .ref x :: .int y :: .ref x :: S, Z, I, J))
  | _ => none
def ga_pop (p' : Nat) : gAc := fun L S Z I J => match S with
  | .int _ :: S => some (.inl (p', L, S, Z, I, J))
  | _ => none
def ga_goto (t : Nat) : gAc := fun L S Z I J => some (.inl (t, L, S, Z, I, J))
def ga_if (f : Int32 → Bool) (t p' : Nat) : gAc := fun L S Z I J => match S with
  | .int x :: S => some (.inl (if f x = true then t else p', L, S, Z, I, J))
  | _ => none
def ga_cmp (f : Int32 → Int32 → Bool) (t p' : Nat) : gAc := fun L S Z I J => match S with
  | .int y :: .int x :: S => some (.inl (if f x y = true then t else p', L, S, Z, I, J))
  | _ => none
/-- a switch from lo on -/
def gsw : Int → List Nat → Nat → Int → Nat
  | _, [], d, _ => d
  | lo, t :: r, d, x => if x = lo then t else gsw (lo + 1) r d x
def ga_switch (lo : Int) (ts : List Nat) (d : Nat) : gAc := fun L S Z I J => match S with
  | .int x :: S => some (.inl (gsw lo ts d x.toInt, L, S, Z, I, J))
  | _ => none
def ga_iret : gAc := fun _ S _ _ _ => match S with
  | [.int x] => some (.inr (.inl (some (.int x))))
  | _ => none
def ga_zret : gAc := fun _ S _ _ _ => match S with
  | [.int x] => if x = 0 ∨ x = 1 then some (.inr (.inl (some (.int x)))) else none
  | _ => none
def ga_cret : gAc := fun _ S _ _ _ => match S with
  | [.int x] => if narrow .char (.int x) = .int x then some (.inr (.inl (some (.int x)))) else none
  | _ => none
def ga_aret : gAc := fun _ S _ _ _ => match S with
  | [.ref x] => some (.inr (.inl (some (.ref x))))
  | _ => none
def ga_vret : gAc := fun _ S _ _ _ => match S with
  | [] => some (.inr (.inl none))
  | _ => none
section GS
variable {K : gC} {Ms : Nat → gM} {M : gM} {pc p' : Nat}
theorem gs_none : gOk K Ms M pc ga_none := fun L S Z I J => ⟨fun _ _ _ _ _ _ h => (by cases h), fun _ h => (by cases h), fun _ _ _ _ h => (by cases h)⟩
/-- the pure ones: neither locals nor world change -/
theorem gs_of {a : gAc} (h : ∀ L S Z I J, (∃ p' S', a L S Z I J = some (.inl (p', L, S', Z, I, J)) ∧
    ∀ (p : Program) (l : Launch) (e : Env) (R : Room) (s : State) (m : MethodId) (args : Array Value) (below : List Frame) (meth : Method) (c : Code) (H : Heap) (locs : List Loc) (ls : Array Slot) (cells slots : Nat) (Q : State → Prop),
      gX K M p R s m args meth c → gH K Z I J H → va_S (gA K) s.heap H locs → gLs K M.2.2.1 ls L →
      W p l e R s m args below meth c H locs cells slots Q (F0 m p' ls (S'.map (gCv K))) → W p l e R s m args below meth c H locs cells slots Q (F0 m pc ls (S.map (gCv K)))) ∨ a L S Z I J = none) : gOk K Ms M pc a := by
  intro L S Z I J
  rcases h L S Z I J with ⟨p1, S1, he, hw⟩ | he
  · refine ⟨fun p' L' S' Z' I' J' h => ?_, fun _ h => (by rw [he] at h; cases h), fun _ _ _ _ h => (by rw [he] at h; cases h)⟩
    rw [he] at h
    cases h
    exact ⟨Nat.le_refl _, Nat.le_refl _, fun p l e R s m args below meth c H locs ls N0 T0 Q hX hH hS hL _ _ _ _ _ kk => hw p l e R s m args below meth c H locs ls _ _ Q hX hH hS hL (kk H locs ls hH hS hL)⟩
  · exact ⟨fun _ _ _ _ _ _ h => (by rw [he] at h; cases h), fun _ h => (by rw [he] at h; cases h), fun _ _ _ _ h => (by rw [he] at h; cases h)⟩
theorem gs_iconst {n : Int} {v : Int32} (hd : decode M.2.1 pc = .ok (.iconst n, 1)) (hv : Int32.ofInt n = v) (hp : pc + 1 = p') : gOk K Ms M pc (ga_push (.int v) p') :=
  gs_of fun L S Z I J => Or.inl ⟨_, _, rfl, fun p l e R s m args below meth c H locs ls cells slots Q hX hH hS hL k => by subst hp; exact lv_iconst hX.1 hX.2.1 hd hv k⟩
theorem gs_bipush {n : Int} {v : Int32} (hd : decode M.2.1 pc = .ok (.bipush n, 2)) (hv : (Int8.ofInt n).toInt32 = v) (hp : pc + 2 = p') : gOk K Ms M pc (ga_push (.int v) p') :=
  gs_of fun L S Z I J => Or.inl ⟨_, _, rfl, fun p l e R s m args below meth c H locs ls cells slots Q hX hH hS hL k => by subst hp; exact lv_bipush hX.1 hX.2.1 hd hv k⟩
theorem gs_sipush {n : Int} {v : Int32} (hd : decode M.2.1 pc = .ok (.sipush n, 3)) (hv : (Int16.ofInt n).toInt32 = v) (hp : pc + 3 = p') : gOk K Ms M pc (ga_push (.int v) p') :=
  gs_of fun L S Z I J => Or.inl ⟨_, _, rfl, fun p l e R s m args below meth c H locs ls cells slots Q hX hH hS hL k => by subst hp; exact lv_sipush hX.1 hX.2.1 hd hv k⟩
theorem gs_lconst {n : Fin 2} {v : Int64} (hd : decode M.2.1 pc = .ok (.lconst n, 1)) (hv : Int64.ofNat (n : Nat) = v) (hp : pc + 1 = p') : gOk K Ms M pc (ga_push (.long v) p') :=
  gs_of fun L S Z I J => Or.inl ⟨_, _, rfl, fun p l e R s m args below meth c H locs ls cells slots Q hX hH hS hL k => by subst hp; exact lv_lconst hX.1 hX.2.1 hd hv k⟩
theorem gs_ldc {i : Nat} {v : Int32} (hd : decode M.2.1 pc = .ok (.ldc i, 2)) (hc : Cond.constant M.1.cls i v ∈ g_G) (hp : pc + 2 = p') : gOk K Ms M pc (ga_push (.int v) p') :=
  gs_of fun L S Z I J => Or.inl ⟨_, _, rfl, fun p l e R s m args below meth c H locs ls cells slots Q hX hH hS hL k => by subst hp; exact lv_ldc hX.1 hX.2.1 hX.2.2.2.1 (hX.2.2.2.2.1 _ hc) hd k⟩
theorem gs_ldc_w {i : Nat} {v : Int32} (hd : decode M.2.1 pc = .ok (.ldc_w i, 3)) (hc : Cond.constant M.1.cls i v ∈ g_G) (hp : pc + 3 = p') : gOk K Ms M pc (ga_push (.int v) p') :=
  gs_of fun L S Z I J => Or.inl ⟨_, _, rfl, fun p l e R s m args below meth c H locs ls cells slots Q hX hH hS hL k => by subst hp; exact lv_ldcw hX.1 hX.2.1 hX.2.2.2.1 (hX.2.2.2.2.1 _ hc) hd k⟩
theorem gs_ldc2 {i : Nat} {v : Int64} (hd : decode M.2.1 pc = .ok (.ldc2_w i, 3)) (hc : Cond.constantLong M.1.cls i v ∈ g_G) (hp : pc + 3 = p') : gOk K Ms M pc (ga_push (.long v) p') :=
  gs_of fun L S Z I J => Or.inl ⟨_, _, rfl, fun p l e R s m args below meth c H locs ls cells slots Q hX hH hS hL k => by subst hp; exact lv_ldc2 hX.1 hX.2.1 hX.2.2.2.1 (hX.2.2.2.2.1 _ hc) hd k⟩
theorem gs_ldcS {i j : Nat} {tx : String} (hd : decode M.2.1 pc = .ok (.ldc i, 2)) (hM : M.1.cls = "HundredGongs$Text") (ht : gTxt[j]? = some (i, tx)) {k : Nat} (hk : 1010 + j = k) (hp : pc + 2 = p') : gOk K Ms M pc (ga_push (.ref k) p') :=
  gs_of fun L S Z I J => Or.inl ⟨_, _, rfl, fun p l e R s m args below meth c H locs ls cells slots Q hX hH hS hL kk => by
    subst hp; subst hk
    exact va_ldcS hX.1 hX.2.1 (hM ▸ hX.2.2.2.1) (hX.2.2.2.2.2.2.2.2.2.1.2.2.2.1 j _ ht) hd kk⟩
theorem gs_iload_n {n : Fin 4} {i : Nat} (hd : decode M.2.1 pc = .ok (.iload_n n, 1)) (hi : (n : Nat) = i) (hp : pc + 1 = p') : gOk K Ms M pc (ga_iload i p') := gs_of fun L S Z I J => by
  unfold ga_iload
  split
  · rename_i x hx
    exact Or.inl ⟨_, _, rfl, fun p l e R s m args below meth c H locs ls cells slots Q hX hH hS hL k => by subst hp; exact lv_iload_n hX.1 hX.2.1 hd hi (hL.at hx (by simp)) k⟩
  · exact Or.inr rfl
theorem gs_iload {i : Nat} (hd : decode M.2.1 pc = .ok (.iload i, 2)) (hp : pc + 2 = p') : gOk K Ms M pc (ga_iload i p') := gs_of fun L S Z I J => by
  unfold ga_iload
  split
  · rename_i x hx
    exact Or.inl ⟨_, _, rfl, fun p l e R s m args below meth c H locs ls cells slots Q hX hH hS hL k => by subst hp; exact lv_iload hX.1 hX.2.1 hd (hL.at hx (by simp)) k⟩
  · exact Or.inr rfl
theorem gs_lload_n {n : Fin 4} {i : Nat} (hd : decode M.2.1 pc = .ok (.lload_n n, 1)) (hi : (n : Nat) = i) (hp : pc + 1 = p') : gOk K Ms M pc (ga_lload i p') := gs_of fun L S Z I J => by
  unfold ga_lload
  split
  · rename_i x hx
    exact Or.inl ⟨_, _, rfl, fun p l e R s m args below meth c H locs ls cells slots Q hX hH hS hL k => by subst hp; exact lv_lload_n hX.1 hX.2.1 hd hi (hL.at hx (by simp)) k⟩
  · exact Or.inr rfl
theorem gs_aload_n {n : Fin 4} {i : Nat} (hd : decode M.2.1 pc = .ok (.aload_n n, 1)) (hi : (n : Nat) = i) (hp : pc + 1 = p') : gOk K Ms M pc (ga_aload i p') := gs_of fun L S Z I J => by
  unfold ga_aload
  split
  · rename_i x hx
    exact Or.inl ⟨_, _, rfl, fun p l e R s m args below meth c H locs ls cells slots Q hX hH hS hL k => by subst hp; exact lv_aload_n hX.1 hX.2.1 hd hi (hL.at hx (by simp)) k⟩
  · exact Or.inr rfl
theorem gs_aload {i : Nat} (hd : decode M.2.1 pc = .ok (.aload i, 2)) (hp : pc + 2 = p') : gOk K Ms M pc (ga_aload i p') := gs_of fun L S Z I J => by
  unfold ga_aload
  split
  · rename_i x hx
    exact Or.inl ⟨_, _, rfl, fun p l e R s m args below meth c H locs ls cells slots Q hX hH hS hL k => by subst hp; exact lv_aload hX.1 hX.2.1 hd (hL.at hx (by simp)) k⟩
  · exact Or.inr rfl
/-- a new local: nothing else changes -/
theorem gs_ofL {a : gAc} (h : ∀ L S Z I J, (∃ p' L' S', a L S Z I J = some (.inl (p', L', S', Z, I, J)) ∧
    ∀ (p : Program) (l : Launch) (e : Env) (R : Room) (s : State) (m : MethodId) (args : Array Value) (below : List Frame) (meth : Method) (c : Code) (H : Heap) (locs : List Loc) (ls : Array Slot) (cells slots : Nat) (Q : State → Prop),
      gX K M p R s m args meth c → gH K Z I J H → va_S (gA K) s.heap H locs → gLs K M.2.2.1 ls L →
      (∀ ls', gLs K M.2.2.1 ls' L' → W p l e R s m args below meth c H locs cells slots Q (F0 m p' ls' (S'.map (gCv K)))) → W p l e R s m args below meth c H locs cells slots Q (F0 m pc ls (S.map (gCv K)))) ∨ a L S Z I J = none) : gOk K Ms M pc a := by
  intro L S Z I J
  rcases h L S Z I J with ⟨p1, L1, S1, he, hw⟩ | he
  · refine ⟨fun p' L' S' Z' I' J' h => ?_, fun _ h => (by rw [he] at h; cases h), fun _ _ _ _ h => (by rw [he] at h; cases h)⟩
    rw [he] at h
    cases h
    exact ⟨Nat.le_refl _, Nat.le_refl _, fun p l e R s m args below meth c H locs ls N0 T0 Q hX hH hS hL _ _ _ _ _ kk => hw p l e R s m args below meth c H locs ls _ _ Q hX hH hS hL (fun ls' hL' => kk H locs ls' hH hS hL')⟩
  · exact ⟨fun _ _ _ _ _ _ h => (by rw [he] at h; cases h), fun _ h => (by rw [he] at h; cases h), fun _ _ _ _ h => (by rw [he] at h; cases h)⟩
theorem gX.fv {p : Program} {R : Room} {s : State} {m : MethodId} {args : Array Value} {meth : Method} {c : Code} (hX : gX K M p R s m args meth c) : K.2.2.2.2.1 = .null ∨ ∃ t, K.2.2.2.2.1 = .ref t := hX.2.2.2.2.2.2.2.2.2.1.2.2.2.2.2.2.2.2.2
theorem gs_istore_n {n : Fin 4} {i : Nat} (hd : decode M.2.1 pc = .ok (.istore_n n, 1)) (hi : (n : Nat) = i) (hp : pc + 1 = p') : gOk K Ms M pc (ga_istore i p') := gs_ofL fun L S Z I J => by
  unfold ga_istore
  split
  · split
    · rename_i x S hn
      exact Or.inl ⟨_, _, _, rfl, fun p l e R s m args below meth c H locs ls cells slots Q hX hH hS hL k => by subst hp; exact lv_istore_n hX.1 hX.2.1 hd hi hL.2 (hL.1 ▸ hn.2) rfl (fun ls' h' => k ls' (hL.set hX.fv (v := .int _) (hL.1 ▸ hn.2) hn.1 h'))⟩
    · exact Or.inr rfl
  · exact Or.inr rfl
theorem gs_istore {i : Nat} (hd : decode M.2.1 pc = .ok (.istore i, 2)) (hp : pc + 2 = p') : gOk K Ms M pc (ga_istore i p') := gs_ofL fun L S Z I J => by
  unfold ga_istore
  split
  · split
    · rename_i x S hn
      exact Or.inl ⟨_, _, _, rfl, fun p l e R s m args below meth c H locs ls cells slots Q hX hH hS hL k => by subst hp; exact lv_istore hX.1 hX.2.1 hd hL.2 (hL.1 ▸ hn.2) rfl (fun ls' h' => k ls' (hL.set hX.fv (v := .int _) (hL.1 ▸ hn.2) hn.1 h'))⟩
    · exact Or.inr rfl
  · exact Or.inr rfl
theorem gs_astore_n {n : Fin 4} {i : Nat} (hd : decode M.2.1 pc = .ok (.astore_n n, 1)) (hi : (n : Nat) = i) (hp : pc + 1 = p') : gOk K Ms M pc (ga_astore i p') := gs_ofL fun L S Z I J => by
  unfold ga_astore
  split
  · split
    · rename_i x S hn
      exact Or.inl ⟨_, _, _, rfl, fun p l e R s m args below meth c H locs ls cells slots Q hX hH hS hL k => by subst hp; exact lv_astore_n hX.1 hX.2.1 hd hi hL.2 (hL.1 ▸ hn.2) rfl (fun ls' h' => k ls' (hL.set hX.fv (v := .ref _) (hL.1 ▸ hn.2) hn.1 h'))⟩
    · exact Or.inr rfl
  · exact Or.inr rfl
theorem gs_astore {i : Nat} (hd : decode M.2.1 pc = .ok (.astore i, 2)) (hp : pc + 2 = p') : gOk K Ms M pc (ga_astore i p') := gs_ofL fun L S Z I J => by
  unfold ga_astore
  split
  · split
    · rename_i x S hn
      exact Or.inl ⟨_, _, _, rfl, fun p l e R s m args below meth c H locs ls cells slots Q hX hH hS hL k => by subst hp; exact lv_astore hX.1 hX.2.1 hd hL.2 (hL.1 ▸ hn.2) rfl (fun ls' h' => k ls' (hL.set hX.fv (v := .ref _) (hL.1 ▸ hn.2) hn.1 h'))⟩
    · exact Or.inr rfl
  · exact Or.inr rfl
theorem gs_iinc {i : Nat} {n : Int} {v : Int32} (hd : decode M.2.1 pc = .ok (.iinc i n, 3)) (hv : Int32.ofInt n = v) (hp : pc + 3 = p') : gOk K Ms M pc (ga_iinc i v p') := gs_ofL fun L S Z I J => by
  unfold ga_iinc
  split
  · rename_i x hx
    split
    · rename_i hn
      refine Or.inl ⟨_, _, _, rfl, fun p l e R s m args below meth c H locs ls cells slots Q hX hH hS hL k => ?_⟩
      subst hp; subst hv
      have hi : i < M.2.2.1 := hL.1 ▸ (List.getElem?_eq_some_iff.mp hx).1
      have hm : (i, Value.int x) ∈ gl K 0 L := gl_mem.mpr ⟨i, .int x, hx, by simp, by simp [gCv]⟩
      obtain ⟨kk, hk⟩ := List.getElem?_of_mem hm
      exact lv_iinc hX.1 hX.2.1 hd hL.2 hk rfl hi rfl (fun ls' h' => k ls' (hL.set hX.fv (v := .int _) hi hn h'))
    · exact Or.inr rfl
  · exact Or.inr rfl
theorem gs_iadd (hd : decode M.2.1 pc = .ok (.iadd, 1)) (hp : pc + 1 = p') : gOk K Ms M pc (ga_bin (fun x y => x + y) p') := gs_of fun L S Z I J => by
  unfold ga_bin
  split
  · exact Or.inl ⟨_, _, rfl, fun p l e R s m args below meth c H locs ls cells slots Q hX hH hS hL k => by subst hp; exact lv_iadd hX.1 hX.2.1 hd k⟩
  · exact Or.inr rfl
theorem gs_isub (hd : decode M.2.1 pc = .ok (.isub, 1)) (hp : pc + 1 = p') : gOk K Ms M pc (ga_bin (fun x y => x - y) p') := gs_of fun L S Z I J => by
  unfold ga_bin
  split
  · exact Or.inl ⟨_, _, rfl, fun p l e R s m args below meth c H locs ls cells slots Q hX hH hS hL k => by subst hp; exact lv_isub hX.1 hX.2.1 hd k⟩
  · exact Or.inr rfl
theorem gs_imul (hd : decode M.2.1 pc = .ok (.imul, 1)) (hp : pc + 1 = p') : gOk K Ms M pc (ga_bin (fun x y => x * y) p') := gs_of fun L S Z I J => by
  unfold ga_bin
  split
  · exact Or.inl ⟨_, _, rfl, fun p l e R s m args below meth c H locs ls cells slots Q hX hH hS hL k => by subst hp; exact lv_imul hX.1 hX.2.1 hd k⟩
  · exact Or.inr rfl
theorem gs_iand (hd : decode M.2.1 pc = .ok (.iand, 1)) (hp : pc + 1 = p') : gOk K Ms M pc (ga_bin (fun x y => x &&& y) p') := gs_of fun L S Z I J => by
  unfold ga_bin
  split
  · exact Or.inl ⟨_, _, rfl, fun p l e R s m args below meth c H locs ls cells slots Q hX hH hS hL k => by subst hp; exact lv_iand hX.1 hX.2.1 hd k⟩
  · exact Or.inr rfl
theorem gs_ior (hd : decode M.2.1 pc = .ok (.ior, 1)) (hp : pc + 1 = p') : gOk K Ms M pc (ga_bin (fun x y => x ||| y) p') := gs_of fun L S Z I J => by
  unfold ga_bin
  split
  · exact Or.inl ⟨_, _, rfl, fun p l e R s m args below meth c H locs ls cells slots Q hX hH hS hL k => by subst hp; exact lv_ior hX.1 hX.2.1 hd k⟩
  · exact Or.inr rfl
theorem gs_ixor (hd : decode M.2.1 pc = .ok (.ixor, 1)) (hp : pc + 1 = p') : gOk K Ms M pc (ga_bin (fun x y => x ^^^ y) p') := gs_of fun L S Z I J => by
  unfold ga_bin
  split
  · exact Or.inl ⟨_, _, rfl, fun p l e R s m args below meth c H locs ls cells slots Q hX hH hS hL k => by subst hp; exact lv_ixor hX.1 hX.2.1 hd k⟩
  · exact Or.inr rfl
theorem gs_ishl (hd : decode M.2.1 pc = .ok (.ishl, 1)) (hp : pc + 1 = p') : gOk K Ms M pc (ga_bin (fun x y => x <<< (y &&& 31)) p') := gs_of fun L S Z I J => by
  unfold ga_bin
  split
  · exact Or.inl ⟨_, _, rfl, fun p l e R s m args below meth c H locs ls cells slots Q hX hH hS hL k => by subst hp; exact lv_ishl hX.1 hX.2.1 hd k⟩
  · exact Or.inr rfl
theorem gs_ishr (hd : decode M.2.1 pc = .ok (.ishr, 1)) (hp : pc + 1 = p') : gOk K Ms M pc (ga_bin (fun x y => x >>> (y &&& 31)) p') := gs_of fun L S Z I J => by
  unfold ga_bin
  split
  · exact Or.inl ⟨_, _, rfl, fun p l e R s m args below meth c H locs ls cells slots Q hX hH hS hL k => by subst hp; exact lv_ishr hX.1 hX.2.1 hd k⟩
  · exact Or.inr rfl
theorem gs_iushr (hd : decode M.2.1 pc = .ok (.iushr, 1)) (hp : pc + 1 = p') : gOk K Ms M pc (ga_bin (fun x y => (x.toUInt32 >>> (y.toUInt32 &&& Int32.toUInt32 31)).toInt32) p') := gs_of fun L S Z I J => by
  unfold ga_bin
  split
  · exact Or.inl ⟨_, _, rfl, fun p l e R s m args below meth c H locs ls cells slots Q hX hH hS hL k => by subst hp; exact lv_iushr hX.1 hX.2.1 hd rfl k⟩
  · exact Or.inr rfl
theorem gs_ineg (hd : decode M.2.1 pc = .ok (.ineg, 1)) (hp : pc + 1 = p') : gOk K Ms M pc (ga_un (fun x => -x) p') := gs_of fun L S Z I J => by
  unfold ga_un
  split
  · exact Or.inl ⟨_, _, rfl, fun p l e R s m args below meth c H locs ls cells slots Q hX hH hS hL k => by subst hp; exact lv_ineg hX.1 hX.2.1 hd k⟩
  · exact Or.inr rfl
theorem gs_i2c (hd : decode M.2.1 pc = .ok (.i2c, 1)) (hp : pc + 1 = p') : gOk K Ms M pc (ga_un (fun x => (x.toUInt32 % 65536).toInt32) p') := gs_of fun L S Z I J => by
  unfold ga_un
  split
  · exact Or.inl ⟨_, _, rfl, fun p l e R s m args below meth c H locs ls cells slots Q hX hH hS hL k => by subst hp; exact lv_i2c hX.1 hX.2.1 hd rfl k⟩
  · exact Or.inr rfl
theorem gs_ladd (hd : decode M.2.1 pc = .ok (.ladd, 1)) (hp : pc + 1 = p') : gOk K Ms M pc (ga_lbin (fun x y => x + y) p') := gs_of fun L S Z I J => by
  unfold ga_lbin
  split
  · exact Or.inl ⟨_, _, rfl, fun p l e R s m args below meth c H locs ls cells slots Q hX hH hS hL k => by subst hp; exact lv_ladd hX.1 hX.2.1 hd k⟩
  · exact Or.inr rfl
theorem gs_lsub (hd : decode M.2.1 pc = .ok (.lsub, 1)) (hp : pc + 1 = p') : gOk K Ms M pc (ga_lbin (fun x y => x - y) p') := gs_of fun L S Z I J => by
  unfold ga_lbin
  split
  · exact Or.inl ⟨_, _, rfl, fun p l e R s m args below meth c H locs ls cells slots Q hX hH hS hL k => by subst hp; exact lv_lsub hX.1 hX.2.1 hd k⟩
  · exact Or.inr rfl
theorem gs_lmul (hd : decode M.2.1 pc = .ok (.lmul, 1)) (hp : pc + 1 = p') : gOk K Ms M pc (ga_lbin (fun x y => x * y) p') := gs_of fun L S Z I J => by
  unfold ga_lbin
  split
  · exact Or.inl ⟨_, _, rfl, fun p l e R s m args below meth c H locs ls cells slots Q hX hH hS hL k => by subst hp; exact lv_lmul hX.1 hX.2.1 hd k⟩
  · exact Or.inr rfl
theorem gs_land (hd : decode M.2.1 pc = .ok (.land, 1)) (hp : pc + 1 = p') : gOk K Ms M pc (ga_lbin (fun x y => x &&& y) p') := gs_of fun L S Z I J => by
  unfold ga_lbin
  split
  · exact Or.inl ⟨_, _, rfl, fun p l e R s m args below meth c H locs ls cells slots Q hX hH hS hL k => by subst hp; exact lv_land hX.1 hX.2.1 hd k⟩
  · exact Or.inr rfl
theorem gs_lor (hd : decode M.2.1 pc = .ok (.lor, 1)) (hp : pc + 1 = p') : gOk K Ms M pc (ga_lbin (fun x y => x ||| y) p') := gs_of fun L S Z I J => by
  unfold ga_lbin
  split
  · exact Or.inl ⟨_, _, rfl, fun p l e R s m args below meth c H locs ls cells slots Q hX hH hS hL k => by subst hp; exact lv_lor hX.1 hX.2.1 hd k⟩
  · exact Or.inr rfl
theorem gs_lxor (hd : decode M.2.1 pc = .ok (.lxor, 1)) (hp : pc + 1 = p') : gOk K Ms M pc (ga_lbin (fun x y => x ^^^ y) p') := gs_of fun L S Z I J => by
  unfold ga_lbin
  split
  · exact Or.inl ⟨_, _, rfl, fun p l e R s m args below meth c H locs ls cells slots Q hX hH hS hL k => by subst hp; exact lv_lxor hX.1 hX.2.1 hd k⟩
  · exact Or.inr rfl
theorem gs_lshl (hd : decode M.2.1 pc = .ok (.lshl, 1)) (hp : pc + 1 = p') : gOk K Ms M pc (ga_lsh (fun x y => x <<< (y.toInt64 &&& 63)) p') := gs_of fun L S Z I J => by
  unfold ga_lsh
  split
  · exact Or.inl ⟨_, _, rfl, fun p l e R s m args below meth c H locs ls cells slots Q hX hH hS hL k => by subst hp; exact lv_lshl hX.1 hX.2.1 hd rfl k⟩
  · exact Or.inr rfl
theorem gs_lshr (hd : decode M.2.1 pc = .ok (.lshr, 1)) (hp : pc + 1 = p') : gOk K Ms M pc (ga_lsh (fun x y => x >>> (y.toInt64 &&& 63)) p') := gs_of fun L S Z I J => by
  unfold ga_lsh
  split
  · exact Or.inl ⟨_, _, rfl, fun p l e R s m args below meth c H locs ls cells slots Q hX hH hS hL k => by subst hp; exact lv_lshr hX.1 hX.2.1 hd rfl k⟩
  · exact Or.inr rfl
theorem gs_i2l (hd : decode M.2.1 pc = .ok (.i2l, 1)) (hp : pc + 1 = p') : gOk K Ms M pc (ga_i2l p') := gs_of fun L S Z I J => by
  unfold ga_i2l
  split
  · exact Or.inl ⟨_, _, rfl, fun p l e R s m args below meth c H locs ls cells slots Q hX hH hS hL k => by subst hp; exact lv_i2l hX.1 hX.2.1 hd rfl k⟩
  · exact Or.inr rfl
theorem gs_l2i (hd : decode M.2.1 pc = .ok (.l2i, 1)) (hp : pc + 1 = p') : gOk K Ms M pc (ga_l2i p') := gs_of fun L S Z I J => by
  unfold ga_l2i
  split
  · exact Or.inl ⟨_, _, rfl, fun p l e R s m args below meth c H locs ls cells slots Q hX hH hS hL k => by subst hp; exact lv_l2i hX.1 hX.2.1 hd rfl k⟩
  · exact Or.inr rfl
theorem gs_pop (hd : decode M.2.1 pc = .ok (.pop, 1)) (hp : pc + 1 = p') : gOk K Ms M pc (ga_pop p') := gs_of fun L S Z I J => by
  unfold ga_pop
  split
  · exact Or.inl ⟨_, _, rfl, fun p l e R s m args below meth c H locs ls cells slots Q hX hH hS hL k => by subst hp; exact lv_pop hX.1 hX.2.1 hd rfl k⟩
  · exact Or.inr rfl
theorem gs_dup (hd : decode M.2.1 pc = .ok (.dup, 1)) (hp : pc + 1 = p') : gOk K Ms M pc (ga_dup p') := gs_of fun L S Z I J => by
  unfold ga_dup
  split
  · exact Or.inl ⟨_, _, rfl, fun p l e R s m args below meth c H locs ls cells slots Q hX hH hS hL k => by subst hp; exact lv_dup hX.1 hX.2.1 hd rfl k⟩
  · exact Or.inr rfl
theorem gs_dup2 (hd : decode M.2.1 pc = .ok (.dup2, 1)) (hp : pc + 1 = p') : gOk K Ms M pc (ga_dup2 p') := gs_of fun L S Z I J => by
  unfold ga_dup2
  split
  · exact Or.inl ⟨_, _, rfl, fun p l e R s m args below meth c H locs ls cells slots Q hX hH hS hL k => by subst hp; exact lv_dup2_11 hX.1 hX.2.1 hd rfl rfl k⟩
  · exact Or.inr rfl
theorem gs_idiv (hd : decode M.2.1 pc = .ok (.idiv, 1)) (hp : pc + 1 = p') : gOk K Ms M pc (ga_div (fun x y => x / y) p') := gs_of fun L S Z I J => by
  unfold ga_div
  split
  · split
    · exact Or.inr rfl
    · rename_i hne
      exact Or.inl ⟨_, _, rfl, fun p l e R s m args below meth c H locs ls cells slots Q hX hH hS hL k => by subst hp; exact lv_idiv hX.1 hX.2.1 hd hne k⟩
  · exact Or.inr rfl
theorem gs_irem (hd : decode M.2.1 pc = .ok (.irem, 1)) (hp : pc + 1 = p') : gOk K Ms M pc (ga_div (fun x y => x - x / y * y) p') := gs_of fun L S Z I J => by
  unfold ga_div
  split
  · split
    · exact Or.inr rfl
    · rename_i hne
      exact Or.inl ⟨_, _, rfl, fun p l e R s m args below meth c H locs ls cells slots Q hX hH hS hL k => by subst hp; exact lv_irem hX.1 hX.2.1 hd hne k⟩
  · exact Or.inr rfl
theorem gs_goto {off : Int} {t : Nat} (hd : decode M.2.1 pc = .ok (.goto off, 3)) (ht : (pc : Int) + off = (t : Int)) : gOk K Ms M pc (ga_goto t) :=
  gs_of fun L S Z I J => Or.inl ⟨_, _, rfl, fun p l e R s m args below meth c H locs ls cells slots Q hX hH hS hL k => lv_goto hX.1 hX.2.1 hd ht k⟩
theorem gs_if_eq {off : Int} {t : Nat} (hd : decode M.2.1 pc = .ok (.ifCond .eq off, 3)) (ht : (pc : Int) + off = (t : Int)) (hp : pc + 3 = p') : gOk K Ms M pc (ga_if (fun x => decide (x = 0)) t p') := gs_of fun L S Z I J => by
  unfold ga_if
  split
  · rename_i x S
    refine Or.inl ⟨_, _, rfl, fun p l e R s m args below meth c H locs ls cells slots Q hX hH hS hL k => ?_⟩
    subst hp
    refine lv_if_eq hX.1 hX.2.1 hd ht (fun q => ?_) (fun q => ?_)
    · rw [if_pos (decide_eq_true q)] at k; exact k
    · rw [if_neg (fun z => q (of_decide_eq_true z))] at k; exact k
  · exact Or.inr rfl
theorem gs_cmp_eq {off : Int} {t : Nat} (hd : decode M.2.1 pc = .ok (.if_icmp .eq off, 3)) (ht : (pc : Int) + off = (t : Int)) (hp : pc + 3 = p') : gOk K Ms M pc (ga_cmp (fun x y => decide (x = y)) t p') := gs_of fun L S Z I J => by
  unfold ga_cmp
  split
  · refine Or.inl ⟨_, _, rfl, fun p l e R s m args below meth c H locs ls cells slots Q hX hH hS hL k => ?_⟩
    subst hp
    refine lv_icmp_eq hX.1 hX.2.1 hd ht (fun q => ?_) (fun q => ?_)
    · rw [if_pos (decide_eq_true q)] at k; exact k
    · rw [if_neg (fun z => q (of_decide_eq_true z))] at k; exact k
  · exact Or.inr rfl
theorem gs_if_ne {off : Int} {t : Nat} (hd : decode M.2.1 pc = .ok (.ifCond .ne off, 3)) (ht : (pc : Int) + off = (t : Int)) (hp : pc + 3 = p') : gOk K Ms M pc (ga_if (fun x => decide (¬ x = 0)) t p') := gs_of fun L S Z I J => by
  unfold ga_if
  split
  · rename_i x S
    refine Or.inl ⟨_, _, rfl, fun p l e R s m args below meth c H locs ls cells slots Q hX hH hS hL k => ?_⟩
    subst hp
    refine lv_if_ne hX.1 hX.2.1 hd ht (fun q => ?_) (fun q => ?_)
    · rw [if_pos (decide_eq_true q)] at k; exact k
    · rw [if_neg (fun z => (of_decide_eq_true z) q)] at k; exact k
  · exact Or.inr rfl
theorem gs_cmp_ne {off : Int} {t : Nat} (hd : decode M.2.1 pc = .ok (.if_icmp .ne off, 3)) (ht : (pc : Int) + off = (t : Int)) (hp : pc + 3 = p') : gOk K Ms M pc (ga_cmp (fun x y => decide (¬ x = y)) t p') := gs_of fun L S Z I J => by
  unfold ga_cmp
  split
  · refine Or.inl ⟨_, _, rfl, fun p l e R s m args below meth c H locs ls cells slots Q hX hH hS hL k => ?_⟩
    subst hp
    refine lv_icmp_ne hX.1 hX.2.1 hd ht (fun q => ?_) (fun q => ?_)
    · rw [if_pos (decide_eq_true q)] at k; exact k
    · rw [if_neg (fun z => (of_decide_eq_true z) q)] at k; exact k
  · exact Or.inr rfl
theorem gs_if_lt {off : Int} {t : Nat} (hd : decode M.2.1 pc = .ok (.ifCond .lt off, 3)) (ht : (pc : Int) + off = (t : Int)) (hp : pc + 3 = p') : gOk K Ms M pc (ga_if (fun x => decide (x < 0)) t p') := gs_of fun L S Z I J => by
  unfold ga_if
  split
  · rename_i x S
    refine Or.inl ⟨_, _, rfl, fun p l e R s m args below meth c H locs ls cells slots Q hX hH hS hL k => ?_⟩
    subst hp
    refine lv_if_lt hX.1 hX.2.1 hd ht (fun q => ?_) (fun q => ?_)
    · rw [if_pos (decide_eq_true q)] at k; exact k
    · rw [if_neg (fun z => q (of_decide_eq_true z))] at k; exact k
  · exact Or.inr rfl
theorem gs_cmp_lt {off : Int} {t : Nat} (hd : decode M.2.1 pc = .ok (.if_icmp .lt off, 3)) (ht : (pc : Int) + off = (t : Int)) (hp : pc + 3 = p') : gOk K Ms M pc (ga_cmp (fun x y => decide (x < y)) t p') := gs_of fun L S Z I J => by
  unfold ga_cmp
  split
  · refine Or.inl ⟨_, _, rfl, fun p l e R s m args below meth c H locs ls cells slots Q hX hH hS hL k => ?_⟩
    subst hp
    refine lv_icmp_lt hX.1 hX.2.1 hd ht (fun q => ?_) (fun q => ?_)
    · rw [if_pos (decide_eq_true q)] at k; exact k
    · rw [if_neg (fun z => q (of_decide_eq_true z))] at k; exact k
  · exact Or.inr rfl
theorem gs_if_ge {off : Int} {t : Nat} (hd : decode M.2.1 pc = .ok (.ifCond .ge off, 3)) (ht : (pc : Int) + off = (t : Int)) (hp : pc + 3 = p') : gOk K Ms M pc (ga_if (fun x => decide (0 ≤ x)) t p') := gs_of fun L S Z I J => by
  unfold ga_if
  split
  · rename_i x S
    refine Or.inl ⟨_, _, rfl, fun p l e R s m args below meth c H locs ls cells slots Q hX hH hS hL k => ?_⟩
    subst hp
    refine lv_if_ge hX.1 hX.2.1 hd ht (fun q => ?_) (fun q => ?_)
    · rw [if_pos (decide_eq_true q)] at k; exact k
    · rw [if_neg (fun z => q (of_decide_eq_true z))] at k; exact k
  · exact Or.inr rfl
theorem gs_cmp_ge {off : Int} {t : Nat} (hd : decode M.2.1 pc = .ok (.if_icmp .ge off, 3)) (ht : (pc : Int) + off = (t : Int)) (hp : pc + 3 = p') : gOk K Ms M pc (ga_cmp (fun x y => decide (y ≤ x)) t p') := gs_of fun L S Z I J => by
  unfold ga_cmp
  split
  · refine Or.inl ⟨_, _, rfl, fun p l e R s m args below meth c H locs ls cells slots Q hX hH hS hL k => ?_⟩
    subst hp
    refine lv_icmp_ge hX.1 hX.2.1 hd ht (fun q => ?_) (fun q => ?_)
    · rw [if_pos (decide_eq_true q)] at k; exact k
    · rw [if_neg (fun z => q (of_decide_eq_true z))] at k; exact k
  · exact Or.inr rfl
theorem gs_if_gt {off : Int} {t : Nat} (hd : decode M.2.1 pc = .ok (.ifCond .gt off, 3)) (ht : (pc : Int) + off = (t : Int)) (hp : pc + 3 = p') : gOk K Ms M pc (ga_if (fun x => decide (0 < x)) t p') := gs_of fun L S Z I J => by
  unfold ga_if
  split
  · rename_i x S
    refine Or.inl ⟨_, _, rfl, fun p l e R s m args below meth c H locs ls cells slots Q hX hH hS hL k => ?_⟩
    subst hp
    refine lv_if_gt hX.1 hX.2.1 hd ht (fun q => ?_) (fun q => ?_)
    · rw [if_pos (decide_eq_true q)] at k; exact k
    · rw [if_neg (fun z => q (of_decide_eq_true z))] at k; exact k
  · exact Or.inr rfl
theorem gs_cmp_gt {off : Int} {t : Nat} (hd : decode M.2.1 pc = .ok (.if_icmp .gt off, 3)) (ht : (pc : Int) + off = (t : Int)) (hp : pc + 3 = p') : gOk K Ms M pc (ga_cmp (fun x y => decide (y < x)) t p') := gs_of fun L S Z I J => by
  unfold ga_cmp
  split
  · refine Or.inl ⟨_, _, rfl, fun p l e R s m args below meth c H locs ls cells slots Q hX hH hS hL k => ?_⟩
    subst hp
    refine lv_icmp_gt hX.1 hX.2.1 hd ht (fun q => ?_) (fun q => ?_)
    · rw [if_pos (decide_eq_true q)] at k; exact k
    · rw [if_neg (fun z => q (of_decide_eq_true z))] at k; exact k
  · exact Or.inr rfl
theorem gs_if_le {off : Int} {t : Nat} (hd : decode M.2.1 pc = .ok (.ifCond .le off, 3)) (ht : (pc : Int) + off = (t : Int)) (hp : pc + 3 = p') : gOk K Ms M pc (ga_if (fun x => decide (x ≤ 0)) t p') := gs_of fun L S Z I J => by
  unfold ga_if
  split
  · rename_i x S
    refine Or.inl ⟨_, _, rfl, fun p l e R s m args below meth c H locs ls cells slots Q hX hH hS hL k => ?_⟩
    subst hp
    refine lv_if_le hX.1 hX.2.1 hd ht (fun q => ?_) (fun q => ?_)
    · rw [if_pos (decide_eq_true q)] at k; exact k
    · rw [if_neg (fun z => q (of_decide_eq_true z))] at k; exact k
  · exact Or.inr rfl
theorem gs_cmp_le {off : Int} {t : Nat} (hd : decode M.2.1 pc = .ok (.if_icmp .le off, 3)) (ht : (pc : Int) + off = (t : Int)) (hp : pc + 3 = p') : gOk K Ms M pc (ga_cmp (fun x y => decide (x ≤ y)) t p') := gs_of fun L S Z I J => by
  unfold ga_cmp
  split
  · refine Or.inl ⟨_, _, rfl, fun p l e R s m args below meth c H locs ls cells slots Q hX hH hS hL k => ?_⟩
    subst hp
    refine lv_icmp_le hX.1 hX.2.1 hd ht (fun q => ?_) (fun q => ?_)
    · rw [if_pos (decide_eq_true q)] at k; exact k
    · rw [if_neg (fun z => q (of_decide_eq_true z))] at k; exact k
  · exact Or.inr rfl
end GS
