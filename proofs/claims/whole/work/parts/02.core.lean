/-! THE ABSTRACT MACHINE: cells by numbers, kinds, references, ints and longs apart; an instruction is a function; what a method answers is a limit -/
def g_G : List Cond := lw_tbl.filter goodWord
theorem g_in {w : Cond} (i : Nat) (h : lw_tbl[i]? = some w) (hg : goodWord w = true) : w ∈ g_G := List.mem_filter.mpr ⟨List.mem_of_getElem? h, hg⟩
theorem g_goodIn {Ts ws : List Cond} (hT : ∀ w ∈ g_G, w ∈ Ts) (h : ∀ w ∈ ws, w ∈ g_G) : GoodIn Ts ws := fun w hw => ⟨hT w (h w hw), good_of_word (List.mem_filter.mp (h w hw)).2⟩
/-- what a class's fields are: 0 an int, 1 a long, 2 a reference -/
def gFT : List (List Nat) := [[2, 2, 2, 2, 0, 0], [2, 2, 2, 0, 0, 0, 0, 0], [2, 2, 2, 0, 0], [2, 2, 0], [2, 0, 0, 0, 0, 0], [0, 0, 0], [2, 2, 2, 2, 2, 2, 2, 2], [0, 2, 2, 2, 2, 0, 0, 0, 2, 0, 0, 1, 0, 0, 0, 0, 0, 2, 2, 2, 0, 0, 2, 2, 0, 2, 2, 0, 2, 2]]
def gft (ci k : Nat) : Nat := (gFT.getD ci []).getD k 0
def gnf (ci : Nat) : Nat := (gFT.getD ci []).length
/-- the frame of reference: class numbers and slots, array classes by tag, where the new cells begin, where the old ones lie, a static that is only carried, the old cells' kinds and contents -/
abbrev gC : Type := va_G × (Nat → ClassId) × Nat × (Nat → Nat) × Value × (Nat → Nat × Nat) × (Nat → Nat → Int32)
/-- how many cells, how many slots, kinds (a class number below 8; 8 int[], 9 boolean[], 10 long[], 11 Morning[]; old cells: 12 a text, 13 byte[], 14 int[]) with lengths, references -/
abbrev gZ : Type := Nat × Nat × (Nat → Nat × Nat) × (Nat → Nat → Option Nat)
abbrev gI : Type := Nat → Nat → Int32
abbrev gJ : Type := Nat → Nat → Int64
def gAd (K : gC) (k : Nat) : Nat := if k < 1000 then K.2.2.1 + k else K.2.2.2.1 k
def gCv (K : gC) (v : Value) : Value := match v with
  | .ref k => .ref (gAd K k)
  | .retAddr _ => K.2.2.2.2.1
  | .int x => .int x
  | .long x => .long x
  | .float x => .float x
  | .double x => .double x
  | .null => .null
def gFd (K : gC) (Z : gZ) (I : gI) (J : gJ) (a k t : Nat) : Value := match t with
  | 0 => .int (I a k)
  | 1 => .long (J a k)
  | _ => va_rf ((Z.2.2.2 a k).map (gAd K))
def gE (K : gC) (Z : gZ) (I : gI) (J : gJ) (a : Nat) : va_E :=
  if (Z.2.2.1 a).1 < 8 then .inr ((Z.2.2.1 a).1, (List.range (gnf (Z.2.2.1 a).1)).map (fun k => gFd K Z I J a k (gft (Z.2.2.1 a).1 k)))
  else if (Z.2.2.1 a).1 = 10 then .inl (K.2.1 10, (Z.2.2.1 a).2, .inr (.inl (J a)))
  else if (Z.2.2.1 a).1 = 11 then .inl (K.2.1 11, (Z.2.2.1 a).2, .inr (.inr (.inr (.inr (fun j => (Z.2.2.2 a j).map (gAd K))))))
  else .inl (K.2.1 (Z.2.2.1 a).1, (Z.2.2.1 a).2, .inl (I a))
def gW (K : gC) (Z : gZ) (I : gI) (J : gJ) : va_W := (List.range Z.1).map (fun k => (gAd K k, gE K Z I J k))
abbrev gA (K : gC) : Nat → Prop := fun q => K.2.2.1 ≤ q
def gTy (K : gC) : List (ClassId × FieldType) := [(K.2.1 8, .int), (K.2.1 9, .boolean), (K.2.1 10, .long), (K.2.1 11, .object "HundredGongs$Morning")]
/-- the heap holds the picture -/
def gH0 (K : gC) (Z : gZ) (I : gI) (J : gJ) (H : Heap) : Prop := va_P K.1 vwCl (gW K Z I J) H ∧ Z.1 ≤ 1000 ∧ (∀ k, (Z.2.2.1 k).1 < 12 → k < Z.1) ∧ ∀ k, 1000 ≤ k → Z.2.2.1 k = K.2.2.2.2.2.1 k ∧ I k = K.2.2.2.2.2.2 k
def gH (K : gC) (Z : gZ) (I : gI) (J : gJ) (H : Heap) : Prop := H.size = K.2.2.1 + Z.1 ∧ gH0 K Z I J H
def gTxt : List (Nat × String) := [(110, "cloister"), (112, "hears"), (113, "alone"), (115, "plain"), (117, "deaf"), (119, "sleepy"), (121, "doubter"), (123, "clear"), (125, "fog"), (127, "frost")]
/-- the old cells that are read, at a method's start -/
def gSp (K : gC) (U : State) (H : Heap) : Prop :=
  (∀ k n, 1000 ≤ k → K.2.2.2.2.2.1 k = (14, n) → va_T .int (gAd K k) n (fun j => .int (K.2.2.2.2.2.2 k j)) (gA K) U H) ∧
  (∀ k n, 1000 ≤ k → K.2.2.2.2.2.1 k = (13, n) → va_T .byte (gAd K k) n (fun j => .int (K.2.2.2.2.2.2 k j)) (gA K) U H) ∧
  (∀ k n, 1000 ≤ k → K.2.2.2.2.2.1 k = (12, n) → va_O "java/lang/String" (gAd K k) (gA K) U H ∧ va_OF "java/lang/String" "coder" "B" (.int 0) (gAd K k) (gA K) U H ∧ va_OF "java/lang/String" "value" "[B" (.ref (gAd K (k + 20))) (gAd K k) (gA K) U H) ∧
  (∀ i q, gTxt[i]? = some q → vk_R "HundredGongs$Text" q.1 q.2 (gAd K (1010 + i)) U) ∧
  va_Z "HundredGongs" "KIND_OVER" "[I" (.ref (gAd K 1000)) (gA K) U H ∧
  va_Z "java/lang/String" "COMPACT_STRINGS" "Z" (.int 1) (gA K) U H ∧
  va_Z "jdk/internal/util/Preconditions" "SIOOBE_FORMATTER" "Ljava/util/function/BiFunction;" K.2.2.2.2.1 (gA K) U H ∧
  va_AO "HundredGongs$Morning" U ∧
  va_Nw (.methodLinkNest "HundredGongs$Foretelling" 20 yX5_init "HundredGongs") U ∧
  (K.2.2.2.2.1 = .null ∨ ∃ t, K.2.2.2.2.1 = .ref t)
theorem gSp.warm {K : gC} {s U : State} {H H1 : Heap} (hW : s.WarmedH U.vm) (hq : ∀ a : Nat, a < H.size → ¬ gA K a → H1[a]? = H[a]?) (h : gSp K s H) : gSp K U H1 := by
  obtain ⟨h1, h2, h3, h4, h5, h6, h7, h8, h9, h10⟩ := h
  exact ⟨fun k n hk he => ((h1 k n hk he).moved hW.alike).kept hq, fun k n hk he => ((h2 k n hk he).moved hW.alike).kept hq,
    fun k n hk he => ⟨((h3 k n hk he).1.moved hW.alike).kept hq, ((h3 k n hk he).2.1.moved hW.alike).kept hq, ((h3 k n hk he).2.2.moved hW.alike).kept hq⟩,
    fun i q hi => (h4 i q hi).warm hW, (h5.moved hW.alike).kept hq, (h6.moved hW.alike).kept hq, (h7.moved hW.alike).kept hq, h8.moved hW.alike, h9.warmM hW, h10⟩
theorem gSp.same {K : gC} {s U : State} {H : Heap} (hv : U.vm = s.vm) (h : gSp K s H) : gSp K U H := by
  have ha : s.vm.Alike U.vm := by rw [hv]; exact Vm.Alike.refl _
  obtain ⟨h1, h2, h3, h4, h5, h6, h7, h8, h9, h10⟩ := h
  exact ⟨fun k n hk he => (h1 k n hk he).moved ha, fun k n hk he => (h2 k n hk he).moved ha,
    fun k n hk he => ⟨(h3 k n hk he).1.moved ha, (h3 k n hk he).2.1.moved ha, (h3 k n hk he).2.2.moved ha⟩,
    fun i q hi => (h4 i q hi).same hv, h5.moved ha, h6.moved ha, h7.moved ha, h8.moved ha, h9.same rfl hv.symm, h10⟩
/-- a method: its name, its code, its locals, what it answers, its frames, its room for locals -/
abbrev gM : Type := MethodName × ByteArray × Nat × Option FieldType × Nat × Nat
def gWs (M : gM) : List Cond := .code M.1 M.2.1 M.2.2.1 M.2.2.2.1 :: g_G
/-- what holds all through a method -/
def gX (K : gC) (M : gM) (p : Program) (R : Room) (s : State) (m : MethodId) (args : Array Value) (meth : Method) (c : Code) : Prop :=
  p.tables.exec = Jvm.exec ∧ c.code = M.2.1 ∧ c.maxLocals = M.2.2.1 ∧ s.vm.findClass M.1.cls = some m.cls ∧ (∀ w ∈ g_G, w.before args s = true) ∧ meth.sig.returnType = M.2.2.2.1 ∧ meth.locks = false ∧ (M.1.name = "<init>" → meth.name = "<init>") ∧
  va_K K.1 vwCl (gTy K) s ∧ gSp K s s.heap ∧ M.2.2.2.2.1 ≤ R.frames ∧ M.2.2.2.2.2 ≤ R.locals
def gl (K : gC) : Nat → List Value → List (Nat × Value)
  | _, [] => []
  | i, v :: r => if v = .null then gl K (i + 1) r else (i, gCv K v) :: gl K (i + 1) r
theorem gl_mem {K : gC} : ∀ {L : List Value} {i : Nat} {q : Nat × Value}, q ∈ gl K i L ↔ ∃ j v, L[j]? = some v ∧ v ≠ .null ∧ q = (i + j, gCv K v)
  | [], i, q => by simp [gl]
  | v :: r, i, q => by
    have ih := @gl_mem K r (i + 1) q
    by_cases hv : v = .null
    · simp only [gl, if_pos hv, ih]
      constructor
      · rintro ⟨j, w, h1, h2, h3⟩
        exact ⟨j + 1, w, by simpa using h1, h2, by rw [h3]; simp; omega⟩
      · rintro ⟨j, w, h1, h2, h3⟩
        cases j with
        | zero => simp at h1; exact absurd (h1 ▸ hv) h2
        | succ j => exact ⟨j, w, by simpa using h1, h2, by rw [h3]; simp; omega⟩
    · simp only [gl, if_neg hv, List.mem_cons, ih]
      constructor
      · rintro (h | ⟨j, w, h1, h2, h3⟩)
        · exact ⟨0, v, rfl, hv, by rw [h]; simp⟩
        · exact ⟨j + 1, w, by simpa using h1, h2, by rw [h3]; simp; omega⟩
      · rintro ⟨j, w, h1, h2, h3⟩
        cases j with
        | zero => simp at h1; exact Or.inl (by rw [h3, h1]; simp)
        | succ j => exact Or.inr ⟨j, w, by simpa using h1, h2, by rw [h3]; simp; omega⟩
/-- the locals -/
def gLs (K : gC) (n : Nat) (ls : Array Slot) (L : List Value) : Prop := L.length = n ∧ lv_has ls n (gl K 0 L)
theorem gLs.at {K : gC} {n : Nat} {ls : Array Slot} {L : List Value} (h : gLs K n ls L) {i : Nat} {v : Value} (hi : L[i]? = some v) (hv : v ≠ .null) : ls[i]? = some (.val (gCv K v)) := by
  have := h.2.2.2 (i, gCv K v) (gl_mem.mpr ⟨i, v, hi, hv, by simp⟩)
  exact this
theorem gCv_cat {K : gC} {v : Value} (hK : K.2.2.2.2.1 = .null ∨ ∃ t, K.2.2.2.2.1 = .ref t) : (gCv K v).category = v.category := by
  cases v <;> first | rfl | skip
  show (K.2.2.2.2.1).category = _
  rcases hK with h | ⟨t, h⟩ <;> rw [h] <;> rfl
/-- a store at i is fine where no long begins just below -/
def gNl (L : List Value) (i : Nat) : Bool := match i with
  | 0 => true
  | j + 1 => match L[j]? with
    | some v => decide (v.category = 1)
    | none => true
theorem gLs.set {K : gC} {n : Nat} {ls ls' : Array Slot} {L : List Value} (hK : K.2.2.2.2.1 = .null ∨ ∃ t, K.2.2.2.2.1 = .ref t) (h : gLs K n ls L) {i : Nat} {v : Value} (hi : i < n) (hn : gNl L i = true)
    (h' : lv_has ls' n ((i, gCv K v) :: (gl K 0 L).filter (fun q => !(q.1 == i) && !(q.1 + 1 == i && q.2.category == 2)))) : gLs K n ls' (L.set i v) := by
  refine ⟨by rw [List.length_set]; exact h.1, h'.1, h'.2.1, fun q hq => h'.2.2 q ?_⟩
  obtain ⟨j, w, h1, h2, rfl⟩ := gl_mem.mp hq
  rw [List.getElem?_set] at h1
  by_cases hj : i = j
  · subst hj
    rw [if_pos rfl] at h1
    split at h1
    · cases h1
      simp
    · cases h1
  · rw [if_neg hj] at h1
    refine List.mem_cons_of_mem _ (List.mem_filter.mpr ⟨gl_mem.mpr ⟨j, w, h1, h2, rfl⟩, ?_⟩)
    have hj' : ¬ j = i := fun e => hj e.symm
    simp only [Nat.zero_add, beq_iff_eq, hj', Bool.and_eq_true, Bool.not_eq_true', beq_eq_false_iff_ne, ne_eq, not_false_eq_true, true_and, Bool.and_eq_false_iff]
    by_cases e : j + 1 = i
    · right
      subst e
      simp only [gNl, h1, decide_eq_true_eq] at hn
      rw [gCv_cat hK, hn]
      decide
    · exact Or.inl e
theorem gAd_lo {K : gC} {k : Nat} (h : k < 1000) : gAd K k = K.2.2.1 + k := if_pos h
theorem gW_at {K : gC} {Z : gZ} {I : gI} {J : gJ} {k : Nat} (h : k < Z.1) : (gW K Z I J)[k]? = some (gAd K k, gE K Z I J k) := by
  simp [gW, h]
theorem gW_D {K : gC} {Z : gZ} {I : gI} {J : gJ} (hN : Z.1 ≤ 1000) : va_D (gA K) (gW K Z I J) := by
  have key : ∀ (i : Nat) (p : Nat × va_E), (gW K Z I J)[i]? = some p → i < Z.1 ∧ p.1 = K.2.2.1 + i := by
    intro i p h
    have hi : i < Z.1 := by
      have := (List.getElem?_eq_some_iff.mp h).1
      simpa [gW] using this
    rw [gW_at hi] at h
    cases h
    exact ⟨hi, gAd_lo (by omega)⟩
  refine ⟨fun i j p q hp hq e => ?_, fun k q hk => ?_⟩
  · have := key i p hp; have := key j q hq; omega
  · have := key k q hk
    show K.2.2.1 ≤ q.1
    omega
theorem gW_set {K : gC} {Z Z' : gZ} {I I' : gI} {J J' : gJ} {k : Nat} {e : va_E} (hk : k < Z.1) (hZ : Z'.1 = Z.1) (he : gE K Z' I' J' k = e) (ho : ∀ j, j < Z.1 → j ≠ k → gE K Z' I' J' j = gE K Z I J j) : (gW K Z I J).set k (gAd K k, e) = gW K Z' I' J' := by
  apply List.ext_getElem?
  intro j
  rw [List.getElem?_set]
  by_cases hj : j < Z.1
  · rw [gW_at hj, gW_at (Z := Z') (by omega)]
    by_cases e1 : k = j
    · subst e1
      simp [gW, hj, he]
    · rw [if_neg e1, ho j hj (fun h => e1 h.symm)]
  · have h1 : (gW K Z I J)[j]? = none := by simp [gW]; omega
    have h2 : (gW K Z' I' J')[j]? = none := by simp [gW]; omega
    rw [h1, h2]
    have h3 : ¬ k = j := by omega
    simp [h3]
theorem gW_push {K : gC} {Z Z' : gZ} {I I' : gI} {J J' : gJ} {e : va_E} (hZ : Z'.1 = Z.1 + 1) (he : gE K Z' I' J' Z.1 = e) (ho : ∀ j, j < Z.1 → gE K Z' I' J' j = gE K Z I J j) : gW K Z I J ++ [(gAd K Z.1, e)] = gW K Z' I' J' := by
  simp only [gW, hZ, List.range_succ, List.map_append, List.map_cons, List.map_nil, he]
  congr 1
  apply List.map_congr_left
  intro j hj
  rw [ho j (List.mem_range.mp hj)]
section GSZ
variable {p : Program} {l : Launch} {e : Env} {R : Room} {s : State} {m : MethodId} {args : Array Value} {below : List Frame} {meth : Method} {c : Code} {H : Heap} {locs : List Loc} {slots : Nat} {Q : State → Prop}
/-- as many cells as the picture has, and no more -/
theorem g_sz {K : gC} {Z : gZ} {I : gI} {J : gJ} {N0 : Nat} {g : JFrame} (hs : s.heap.size = K.2.2.1 + N0) (hN : N0 ≤ Z.1) (hH : gH0 K Z I J H) (hS : va_S (gA K) s.heap H locs) (k : gH K Z I J H → W p l e R s m args below meth c H locs (Z.1 - N0) slots Q g) : W p l e R s m args below meth c H locs (Z.1 - N0) slots Q g := by
  intro T hT X
  refine k ⟨?_, hH⟩ T hT X
  have h1 : (T.setVm s.vm).heap.size ≤ s.heap.size + (Z.1 - N0) := X.same.2.2.1
  have h2 : (T.setVm s.vm).heap = H := hT
  rw [h2] at h1
  have h3 := hS.1
  by_cases hz : Z.1 = 0
  · omega
  · have h4 := (hH.1 (Z.1 - 1) _ (gW_at (by omega))).lt
    have h5 : gAd K (Z.1 - 1) = K.2.2.1 + (Z.1 - 1) := gAd_lo (by have := hH.2.1; omega)
    simp only [h5] at h4
    omega
end GSZ
/-- what an instruction does: goes on (where, locals, stack, world), answers, or calls (whom, with what, where then, what stays on the stack) -/
abbrev gO : Type := Option ((Nat × List Value × List Value × gZ × gI × gJ) ⊕ (Option Value) ⊕ (Nat × List Value × Nat × List Value))
abbrev gAc : Type := List Value → List Value → gZ → gI → gJ → gO
/-- it goes on, as the machine does -/
def gNx (K : gC) (M : gM) (pc : Nat) (L S : List Value) (Z : gZ) (I : gI) (J : gJ) (p' : Nat) (L' S' : List Value) (Z' : gZ) (I' : gI) (J' : gJ) : Prop :=
  Z.1 ≤ Z'.1 ∧ Z.2.1 ≤ Z'.2.1 ∧
  ∀ (p : Program) (l : Launch) (e : Env) (R : Room) (s : State) (m : MethodId) (args : Array Value) (below : List Frame) (meth : Method) (c : Code) (H : Heap) (locs : List Loc) (ls : Array Slot) (N0 T0 : Nat) (Q : State → Prop),
    gX K M p R s m args meth c → gH K Z I J H → va_S (gA K) s.heap H locs → gLs K M.2.2.1 ls L → s.heap.size = K.2.2.1 + N0 → N0 ≤ Z.1 → T0 ≤ Z.2.1 → Z'.1 - N0 ≤ R.cells → Z'.2.1 - T0 ≤ R.slots →
    (∀ (H' : Heap) (locs' : List Loc) (ls' : Array Slot), gH K Z' I' J' H' → va_S (gA K) s.heap H' locs' → gLs K M.2.2.1 ls' L' → W p l e R s m args below meth c H' locs' (Z'.1 - N0) (Z'.2.1 - T0) Q (F0 m p' ls' (S'.map (gCv K)))) →
    W p l e R s m args below meth c H locs (Z.1 - N0) (Z.2.1 - T0) Q (F0 m pc ls (S.map (gCv K)))
/-- it answers v -/
def gRt (K : gC) (M : gM) (pc : Nat) (S : List Value) (v : Option Value) : Prop :=
  (decode M.2.1 pc = .ok (.ireturn, 1) ∧ ∃ (x : Int32) (ty : FieldType), v = some (.int x) ∧ S = [.int x] ∧ M.2.2.2.1 = some ty ∧ narrow ty (.int x) = .int x) ∨
  (decode M.2.1 pc = .ok (.areturn, 1) ∧ ∃ (k : Nat) (n : String), v = some (.ref k) ∧ S = [.ref k] ∧ M.2.2.2.1 = some (.object n)) ∨
  (decode M.2.1 pc = .ok (.return_, 1) ∧ v = none ∧ S = [] ∧ M.2.2.2.1 = none)
/-- a method's start and end, in the picture's words -/
def gPre (K : gC) (Z : gZ) (I : gI) (J : gJ) (U : State) : Prop := gH K Z I J U.heap ∧ va_K K.1 vwCl (gTy K) U ∧ gSp K U U.heap
def gPost (K : gC) (v : Option Value) (Z : gZ) (I : gI) (J : gJ) : Array Value → State → Outcome → State → Prop := fun _ st oc t => oc = .returned (v.map (gCv K)) ∧ gH K Z I J t.heap ∧ va_F (gA K) st t
def gMet (K : gC) (l : Launch) (M : gM) (As : List Value) (Z : gZ) (I : gI) (J : gJ) (v : Option Value) (Z' : gZ) (I' : gI) (J' : gJ) : Prop :=
  Met l M.1 (gWs M) { frames := M.2.2.2.2.1, cells := Z'.1 - Z.1, slots := Z'.2.1 - Z.2.1, locals := M.2.2.2.2.2 } (va_Pc (As.map (gCv K)) (gPre K Z I J)) (gPost K v Z' I' J') (Z'.1 - Z.1) (Z'.2.1 - Z.2.1) (gA K)
/-- it calls M2 -/
def gCa (K : gC) (M M2 : gM) (pc : Nat) (L S : List Value) (Z : gZ) (I : gI) (J : gJ) (As : List Value) (p' : Nat) (S' : List Value) : Prop :=
  ∀ (v : Option Value) (Z' : gZ) (I' : gI) (J' : gJ) (p : Program) (l : Launch) (e : Env) (R : Room) (s : State) (m : MethodId) (args : Array Value) (below : List Frame) (meth : Method) (c : Code) (H : Heap) (locs : List Loc) (ls : Array Slot) (N0 T0 : Nat) (Q : State → Prop),
    gMet K l M2 As Z I J v Z' I' J' → Z.1 ≤ Z'.1 → Z.2.1 ≤ Z'.2.1 →
    gX K M p R s m args meth c → gH K Z I J H → va_S (gA K) s.heap H locs → gLs K M.2.2.1 ls L → s.heap.size = K.2.2.1 + N0 → N0 ≤ Z.1 → T0 ≤ Z.2.1 → Z'.1 - N0 ≤ R.cells → Z'.2.1 - T0 ≤ R.slots →
    (∀ (H' : Heap) (locs' : List Loc), gH K Z' I' J' H' → va_S (gA K) s.heap H' locs' → W p l e R s m args below meth c H' locs' (Z'.1 - N0) (Z'.2.1 - T0) Q (F0 m p' ls ((v.toList ++ S').map (gCv K)))) →
    W p l e R s m args below meth c H locs (Z.1 - N0) (Z.2.1 - T0) Q (F0 m pc ls (S.map (gCv K)))
/-- an action is sound at a place of a method -/
def gOk (K : gC) (Ms : Nat → gM) (M : gM) (pc : Nat) (a : gAc) : Prop := ∀ (L S : List Value) (Z : gZ) (I : gI) (J : gJ),
  (∀ p' L' S' Z' I' J', a L S Z I J = some (.inl (p', L', S', Z', I', J')) → gNx K M pc L S Z I J p' L' S' Z' I' J') ∧
  (∀ v, a L S Z I J = some (.inr (.inl v)) → gRt K M pc S v) ∧
  (∀ z As p' S', a L S Z I J = some (.inr (.inr (z, As, p', S'))) → gCa K M (Ms z) pc L S Z I J As p' S')
