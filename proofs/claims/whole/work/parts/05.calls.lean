/-! THE INSTRUCTIONS that make cells, texts, switches, answers, calls -/
section GN
variable {K : gC} {Ms : Nat → gM} {M : gM} {pc p' : Nat}
variable {p : Program} {l : Launch} {e : Env} {R : Room} {s : State} {m : MethodId} {args : Array Value} {below : List Frame} {meth : Method} {c : Code} {H : Heap} {locs : List Loc} {slots : Nat} {Q : State → Prop}
/-- a new cell lies just behind the others -/
theorem g_szN {Z : gZ} {I : gI} {J : gJ} {N0 q : Nat} {E : va_E} {g : JFrame} (hs : s.heap.size = K.2.2.1 + N0) (hN : N0 ≤ Z.1) (hlt : Z.1 < 1000) (hP : va_P K.1 vwCl (gW K Z I J ++ [(q, E)]) H) (hD : va_D (gA K) (gW K Z I J ++ [(q, E)])) (k : q = gAd K Z.1 → W p l e R s m args below meth c H locs (Z.1 - N0 + 1) slots Q g) : W p l e R s m args below meth c H locs (Z.1 - N0 + 1) slots Q g := by
  intro T hT X
  refine k ?_ T hT X
  have h1 : (T.setVm s.vm).heap.size ≤ s.heap.size + (Z.1 - N0 + 1) := X.same.2.2.1
  have h2 : (T.setVm s.vm).heap = H := hT
  rw [h2] at h1
  have hlen : (gW K Z I J).length = Z.1 := by simp [gW]
  have hz : (gW K Z I J ++ [(q, E)])[Z.1]? = some (q, E) := by rw [List.getElem?_append_right (by omega)]; simp [hlen]
  have h3 := (hP _ _ hz).lt
  have h4 : K.2.2.1 ≤ q := hD.2 _ _ hz
  rw [gAd_lo hlt]
  rcases Nat.lt_or_ge q (K.2.2.1 + Z.1) with h5 | h5
  · exfalso
    have hj : q - K.2.2.1 < Z.1 := by omega
    have h6 : (gW K Z I J ++ [(q, E)])[q - K.2.2.1]? = some (gAd K (q - K.2.2.1), gE K Z I J (q - K.2.2.1)) := by
      rw [List.getElem?_append_left (by omega)]
      exact gW_at hj
    have h7 := hD.1 _ _ _ _ h6 hz (by show gAd K (q - K.2.2.1) = q; rw [gAd_lo (by omega)]; omega)
    omega
  · have h6 : (q, E).1 < H.size := h3
    simp only at h6
    omega
theorem gH0.push {Z : gZ} {I : gI} {J : gJ} {H H1 : Heap} {E : va_E} {t n sl : Nat} (h : gH K Z I J H) (hlt : Z.1 < 1000) (he : gE K (Z.1 + 1, Z.2.1 + sl, va_up Z.2.2.1 Z.1 (t, n), va_up Z.2.2.2 Z.1 (fun _ => none)) (va_up I Z.1 (fun _ => 0)) (va_up J Z.1 (fun _ => 0)) Z.1 = E) (hP : va_P K.1 vwCl (gW K Z I J ++ [(gAd K Z.1, E)]) H1) :
    gH0 K (Z.1 + 1, Z.2.1 + sl, va_up Z.2.2.1 Z.1 (t, n), va_up Z.2.2.2 Z.1 (fun _ => none)) (va_up I Z.1 (fun _ => 0)) (va_up J Z.1 (fun _ => 0)) H1 := by
  refine ⟨?_, by show Z.1 + 1 ≤ 1000; omega, fun k hk => ?_, fun k hk => ?_⟩
  · rw [← gW_push (K := K) (Z := Z) (I := I) (J := J) (Z' := (Z.1 + 1, Z.2.1 + sl, va_up Z.2.2.1 Z.1 (t, n), va_up Z.2.2.2 Z.1 (fun _ => none))) rfl he (fun j hj => gE_cong (up_ne (by omega)) (up_ne (by omega)) (up_ne (by omega)) (up_ne (by omega)))]
    exact hP
  · show k < Z.1 + 1
    by_cases e : k = Z.1
    · omega
    · have hk' : (va_up Z.2.2.1 Z.1 (t, n) k).1 < 12 := hk
      rw [up_ne e] at hk'
      have := h.lt hk'
      omega
  · have h1 : k ≠ Z.1 := by omega
    show va_up Z.2.2.1 Z.1 (t, n) k = _ ∧ va_up I Z.1 (fun _ => 0) k = _
    rw [up_ne h1, up_ne h1]
    exact h.2.2.2.2 k hk
/-- one more cell -/
theorem gs_ofN {a : gAc} (h : ∀ L S Z I J, (∃ p' S' t n sl, a L S Z I J = some (.inl (p', L, .ref Z.1 :: S', (Z.1 + 1, Z.2.1 + sl, va_up Z.2.2.1 Z.1 (t, n), va_up Z.2.2.2 Z.1 (fun _ => none)), va_up I Z.1 (fun _ => 0), va_up J Z.1 (fun _ => 0))) ∧ Z.1 < 1000 ∧
    ∀ (p : Program) (l : Launch) (e : Env) (R : Room) (s : State) (m : MethodId) (args : Array Value) (below : List Frame) (meth : Method) (c : Code) (H : Heap) (locs : List Loc) (ls : Array Slot) (cells slots : Nat) (Q : State → Prop),
      gX K M p R s m args meth c → gH K Z I J H → va_S (gA K) s.heap H locs → gLs K M.2.2.1 ls L → cells + 1 ≤ R.cells → slots + sl ≤ R.slots → K.2.2.1 ≤ s.heap.size →
      (∀ q H', va_P K.1 vwCl (gW K Z I J ++ [(q, gE K (Z.1 + 1, Z.2.1 + sl, va_up Z.2.2.1 Z.1 (t, n), va_up Z.2.2.2 Z.1 (fun _ => none)) (va_up I Z.1 (fun _ => 0)) (va_up J Z.1 (fun _ => 0)) Z.1)]) H' → va_D (gA K) (gW K Z I J ++ [(q, gE K (Z.1 + 1, Z.2.1 + sl, va_up Z.2.2.1 Z.1 (t, n), va_up Z.2.2.2 Z.1 (fun _ => none)) (va_up I Z.1 (fun _ => 0)) (va_up J Z.1 (fun _ => 0)) Z.1)]) → va_S (gA K) s.heap H' locs → W p l e R s m args below meth c H' locs (cells + 1) (slots + sl) Q (F0 m p' ls (.ref q :: S'.map (gCv K)))) → W p l e R s m args below meth c H locs cells slots Q (F0 m pc ls (S.map (gCv K)))) ∨ a L S Z I J = none) : gOk K Ms M pc a := by
  intro L S Z I J
  rcases h L S Z I J with ⟨p1, S1, t, n, sl, he, hlt, hw⟩ | he
  · refine ⟨fun p' L' S' Z' I' J' h => ?_, fun _ h => (by rw [he] at h; cases h), fun _ _ _ _ h => (by rw [he] at h; cases h)⟩
    rw [he] at h
    cases h
    refine ⟨Nat.le_succ _, Nat.le_add_right _ _, fun p l e R s m args below meth c H locs ls N0 T0 Q hX hH hS hL hs hN hT hc hsl kk => ?_⟩
    have e1 : Z.1 + 1 - N0 = Z.1 - N0 + 1 := by omega
    have e2 : Z.2.1 + sl - T0 = Z.2.1 - T0 + sl := by omega
    have hc' : Z.1 + 1 - N0 ≤ R.cells := hc
    have hsl' : Z.2.1 + sl - T0 ≤ R.slots := hsl
    refine hw p l e R s m args below meth c H locs ls _ _ Q hX hH hS hL (by omega) (by omega) (by omega) (fun q H' hP' hD' hS' => ?_)
    refine g_szN hs hN hlt hP' hD' (fun hq => ?_)
    subst hq
    have hH0 := gH0.push (K := K) (t := t) (n := n) (sl := sl) hH hlt rfl hP'
    have := g_sz (p := p) (l := l) (e := e) (R := R) (m := m) (args := args) (below := below) (meth := meth) (c := c) (Q := Q) (slots := Z.2.1 + sl - T0) hs (show N0 ≤ Z.1 + 1 by omega) hH0 hS' (fun hH' => kk H' locs ls hH' hS' hL)
    have this : W p l e R s m args below meth c H' locs (Z.1 + 1 - N0) (Z.2.1 + sl - T0) Q (F0 m p1 ls ((.ref Z.1 :: S1).map (gCv K))) := this
    rw [e1, e2] at this
    exact this
  · exact ⟨fun _ _ _ _ _ _ h => (by rw [he] at h; cases h), fun _ h => (by rw [he] at h; cases h), fun _ _ _ _ h => (by rw [he] at h; cases h)⟩
theorem gs_new {ci idx : Nat} {C : String} {T : u_T} {N : Nat} {ty : Nat → FieldType} (hc : gCls ci C T N ty) (hl : Cond.classLink M.1.cls idx C ∈ g_G) (hd : decode M.2.1 pc = .ok (.new idx, 3)) (hp : pc + 3 = p') : gOk K Ms M pc (ga_new ci N p') := gs_ofN fun L S Z I J => by
  unfold ga_new
  split
  · rename_i hlt
    refine Or.inl ⟨_, _, ci, 0, N, rfl, hlt, fun p l e R s m args below meth c H locs ls cells slots Q hX hH hS hL hc1 hs1 hb kk => ?_⟩
    subst hp
    have h8 := hc.2.2.2.2.2.2.1
    have he : gE K (Z.1 + 1, Z.2.1 + N, va_up Z.2.2.1 Z.1 (ci, 0), va_up Z.2.2.2 Z.1 (fun _ => none)) (va_up I Z.1 (fun _ => 0)) (va_up J Z.1 (fun _ => 0)) Z.1 = .inr (ci, (List.range (gnf ci)).map (fun k => gFd K (Z.1 + 1, Z.2.1 + N, va_up Z.2.2.1 Z.1 (ci, 0), va_up Z.2.2.2 Z.1 (fun _ => none)) (va_up I Z.1 (fun _ => 0)) (va_up J Z.1 (fun _ => 0)) Z.1 k (gft ci k))) := by
      rw [gE_obj (by simp only [up_eq]; exact h8)]
      simp only [up_eq]
    rw [he] at kk
    refine va_new hX.1 hX.2.1 hX.2.2.2.2.1 hc.2.1 ty hc.2.2.1 hX.2.2.2.1 (hX.2.2.2.2.1 _ hl) (hX.2.2.2.2.1 _ hc.2.2.2.2.1) (hX.2.2.2.2.1 _ hc.2.2.2.2.2.1) hX.2.2.2.2.2.2.2.2.1 hH.2.1 (gW_D hH.2.2.1) hS (fun q h => Nat.le_trans hb h) hc.1 (fun j hj => ?_) hc1 hs1 hd kk
    rw [hc.2.2.2.2.2.2.2.2.2 j hj]
    unfold vp_V
    rw [List.getD_eq_getElem?_getD, fs_get (by rw [hc.2.2.2.2.2.2.2.1]; exact hj)]
    simp only [Option.getD_some, gFd, up_eq]
    generalize gft ci j = w
    match w with
    | 0 => rfl
    | 1 => rfl
    | n + 2 => rfl
  · exact Or.inr rfl
theorem gs_newaI (hl : Cond.arrayClass .int ∈ g_G) (hd : decode M.2.1 pc = .ok (.newarray .int, 2)) (hp : pc + 2 = p') : gOk K Ms M pc (ga_newa 8 p') := gs_ofN fun L S Z I J => by
  unfold ga_newa
  split
  · rename_i n S
    split
    · rename_i hn
      obtain ⟨hlt, h0, hle⟩ := hn
      refine Or.inl ⟨_, _, 8, n.toNatClampNeg, n.toNatClampNeg, rfl, hlt, fun p l e R s m args below meth c H locs ls cells slots Q hX hH hS hL hc1 hs1 hb kk => ?_⟩
      subst hp
      rw [gE_int (Or.inl (by simp only [up_eq]))] at kk
      simp only [up_eq] at kk
      refine va_newa (atype := .int) hX.1 hX.2.1 (hX.2.2.2.2.1 _ hl) rfl hX.2.2.2.2.2.2.2.2.1 hH.2.1 (gW_D hH.2.2.1) hS (fun q h => Nat.le_trans hb h) (a0 := (n.toNatClampNeg, .inl (fun _ => 0))) (fun cA => rfl) (Int32.not_lt.mpr h0) rfl (by show n.toNatClampNeg * componentBytes .int ≤ _; simp only [componentBytes]; omega) hc1 hs1 hd (fun q cA H1 hK1 hP1 hD1 hS1 => ?_)
      have e1 : s.vm.findClass ("[" ++ FieldType.int.toString) = some cA := (hK1.2 4 (cA, .int) rfl).2
      have e2 : s.vm.findClass ("[" ++ FieldType.int.toString) = some (K.2.1 8) := (hX.2.2.2.2.2.2.2.2.1.2 0 (K.2.1 8, .int) rfl).2
      cases Option.some.inj (e1.symm.trans e2)
      exact kk q H1 hP1 hD1 hS1
    · exact Or.inr rfl
  · exact Or.inr rfl
theorem gs_newaZ (hl : Cond.arrayClass .boolean ∈ g_G) (hd : decode M.2.1 pc = .ok (.newarray .boolean, 2)) (hp : pc + 2 = p') : gOk K Ms M pc (ga_newa 9 p') := gs_ofN fun L S Z I J => by
  unfold ga_newa
  split
  · rename_i n S
    split
    · rename_i hn
      obtain ⟨hlt, h0, hle⟩ := hn
      refine Or.inl ⟨_, _, 9, n.toNatClampNeg, n.toNatClampNeg, rfl, hlt, fun p l e R s m args below meth c H locs ls cells slots Q hX hH hS hL hc1 hs1 hb kk => ?_⟩
      subst hp
      rw [gE_int (Or.inr (by simp only [up_eq]))] at kk
      simp only [up_eq] at kk
      refine va_newa (atype := .boolean) hX.1 hX.2.1 (hX.2.2.2.2.1 _ hl) rfl hX.2.2.2.2.2.2.2.2.1 hH.2.1 (gW_D hH.2.2.1) hS (fun q h => Nat.le_trans hb h) (a0 := (n.toNatClampNeg, .inl (fun _ => 0))) (fun cA => rfl) (Int32.not_lt.mpr h0) rfl (by show n.toNatClampNeg * componentBytes .boolean ≤ _; simp only [componentBytes]; omega) hc1 hs1 hd (fun q cA H1 hK1 hP1 hD1 hS1 => ?_)
      have e1 : s.vm.findClass ("[" ++ FieldType.boolean.toString) = some cA := (hK1.2 4 (cA, .boolean) rfl).2
      have e2 : s.vm.findClass ("[" ++ FieldType.boolean.toString) = some (K.2.1 9) := (hX.2.2.2.2.2.2.2.2.1.2 1 (K.2.1 9, .boolean) rfl).2
      cases Option.some.inj (e1.symm.trans e2)
      exact kk q H1 hP1 hD1 hS1
    · exact Or.inr rfl
  · exact Or.inr rfl
theorem gs_newaJ (hl : Cond.arrayClass .long ∈ g_G) (hd : decode M.2.1 pc = .ok (.newarray .long, 2)) (hp : pc + 2 = p') : gOk K Ms M pc (ga_newa 10 p') := gs_ofN fun L S Z I J => by
  unfold ga_newa
  split
  · rename_i n S
    split
    · rename_i hn
      obtain ⟨hlt, h0, hle⟩ := hn
      refine Or.inl ⟨_, _, 10, n.toNatClampNeg, n.toNatClampNeg, rfl, hlt, fun p l e R s m args below meth c H locs ls cells slots Q hX hH hS hL hc1 hs1 hb kk => ?_⟩
      subst hp
      rw [gE_long (by simp only [up_eq])] at kk
      simp only [up_eq] at kk
      refine va_newa (atype := .long) hX.1 hX.2.1 (hX.2.2.2.2.1 _ hl) rfl hX.2.2.2.2.2.2.2.2.1 hH.2.1 (gW_D hH.2.2.1) hS (fun q h => Nat.le_trans hb h) (a0 := (n.toNatClampNeg, .inr (.inl (fun _ => 0)))) (fun cA => rfl) (Int32.not_lt.mpr h0) rfl (by show n.toNatClampNeg * componentBytes .long ≤ _; simp only [componentBytes]; omega) hc1 hs1 hd (fun q cA H1 hK1 hP1 hD1 hS1 => ?_)
      have e1 : s.vm.findClass ("[" ++ FieldType.long.toString) = some cA := (hK1.2 4 (cA, .long) rfl).2
      have e2 : s.vm.findClass ("[" ++ FieldType.long.toString) = some (K.2.1 10) := (hX.2.2.2.2.2.2.2.2.1.2 2 (K.2.1 10, .long) rfl).2
      cases Option.some.inj (e1.symm.trans e2)
      exact kk q H1 hP1 hD1 hS1
    · exact Or.inr rfl
  · exact Or.inr rfl
theorem gs_newq {idx : Nat} (hl : Cond.classLink M.1.cls idx "HundredGongs$Morning" ∈ g_G) (hd : decode M.2.1 pc = .ok (.anewarray idx, 3)) (hp : pc + 3 = p') : gOk K Ms M pc (ga_newa 11 p') := gs_ofN fun L S Z I J => by
  unfold ga_newa
  split
  · rename_i n S
    split
    · rename_i hn
      obtain ⟨hlt, h0, hle⟩ := hn
      refine Or.inl ⟨_, _, 11, n.toNatClampNeg, n.toNatClampNeg, rfl, hlt, fun p l e R s m args below meth c H locs ls cells slots Q hX hH hS hL hc1 hs1 hb kk => ?_⟩
      subst hp
      rw [gE_ref (by simp only [up_eq])] at kk
      simp only [up_eq] at kk
      refine va_newq hX.1 hX.2.1 hX.2.2.2.1 (hX.2.2.2.2.1 _ hl) hX.2.2.2.2.2.2.2.2.2.1.2.2.2.2.2.2.2.1 hX.2.2.2.2.2.2.2.2.1 hH.2.1 (gW_D hH.2.2.1) hS (fun q h => Nat.le_trans hb h) (Int32.not_lt.mpr h0) rfl (by omega) hc1 hs1 hd (fun q cA H1 hK1 hP1 hD1 hS1 => ?_)
      obtain ⟨kA, comp, -, -, -, e1⟩ := (hK1.2 4 (cA, .object "HundredGongs$Morning") rfl).2
      obtain ⟨kA', comp', -, -, -, e2⟩ := (hX.2.2.2.2.2.2.2.2.1.2 3 (K.2.1 11, .object "HundredGongs$Morning") rfl).2
      cases Option.some.inj (e1.symm.trans e2)
      exact kk q H1 hP1 hD1 hS1
    · exact Or.inr rfl
  · exact Or.inr rfl
theorem gs_getS {idx : Nat} (hl : Cond.fieldLink M.1.cls idx "java/lang/String" "value" "[B" ∈ g_G) (hd : decode M.2.1 pc = .ok (.getfield idx, 3)) (hp : pc + 3 = p') : gOk K Ms M pc (ga_getS p') := gs_of fun L S Z I J => by
  unfold ga_getS
  split
  · rename_i a S
    split
    · rename_i ha
      refine Or.inl ⟨_, _, rfl, fun p l e R s m args below meth c H locs ls cells slots Q hX hH hS hL kk => ?_⟩
      subst hp
      have e1 := (hH.2.2.2.2 a ha.2).1
      have hT := hX.2.2.2.2.2.2.2.2.2.1.2.2.1 a (Z.2.2.1 a).2 ha.2 (by rw [← e1, ← ha.1])
      exact vk_getf hX.1 hX.2.1 hT.2.2 hS hX.2.2.2.1 (hX.2.2.2.2.1 _ hl) (fun _ h => h) hd kk
    · exact Or.inr rfl
  · exact Or.inr rfl
theorem gs_getC {idx : Nat} (hl : Cond.fieldLink M.1.cls idx "java/lang/String" "coder" "B" ∈ g_G) (hd : decode M.2.1 pc = .ok (.getfield idx, 3)) (hp : pc + 3 = p') : gOk K Ms M pc (ga_getC p') := gs_of fun L S Z I J => by
  unfold ga_getC
  split
  · rename_i a S
    split
    · rename_i ha
      refine Or.inl ⟨_, _, rfl, fun p l e R s m args below meth c H locs ls cells slots Q hX hH hS hL kk => ?_⟩
      subst hp
      have e1 := (hH.2.2.2.2 a ha.2).1
      have hT := hX.2.2.2.2.2.2.2.2.2.1.2.2.1 a (Z.2.2.1 a).2 ha.2 (by rw [← e1, ← ha.1])
      exact vk_getf hX.1 hX.2.1 hT.2.1 hS hX.2.2.2.1 (hX.2.2.2.2.1 _ hl) (fun _ h => h) hd kk
    · exact Or.inr rfl
  · exact Or.inr rfl
theorem gs_getsK {idx : Nat} (hl : Cond.fieldLink M.1.cls idx "HundredGongs" "KIND_OVER" "[I" ∈ g_G) (hd : decode M.2.1 pc = .ok (.getstatic idx, 3)) (hp : pc + 3 = p') : gOk K Ms M pc (ga_push (.ref 1000) p') :=
  gs_of fun L S Z I J => Or.inl ⟨_, _, rfl, fun p l e R s m args below meth c H locs ls cells slots Q hX hH hS hL kk => by subst hp; exact va_gets hX.1 hX.2.1 hX.2.2.2.2.2.2.2.2.2.1.2.2.2.2.1 hS hX.2.2.2.1 (hX.2.2.2.2.1 _ hl) (fun _ h => h) hd kk⟩
theorem gs_getsC {idx : Nat} (hl : Cond.fieldLink M.1.cls idx "java/lang/String" "COMPACT_STRINGS" "Z" ∈ g_G) (hd : decode M.2.1 pc = .ok (.getstatic idx, 3)) (hp : pc + 3 = p') : gOk K Ms M pc (ga_push (.int 1) p') :=
  gs_of fun L S Z I J => Or.inl ⟨_, _, rfl, fun p l e R s m args below meth c H locs ls cells slots Q hX hH hS hL kk => by subst hp; exact va_gets hX.1 hX.2.1 hX.2.2.2.2.2.2.2.2.2.1.2.2.2.2.2.1 hS hX.2.2.2.1 (hX.2.2.2.2.1 _ hl) (fun _ h => h) hd kk⟩
theorem gs_getsF {idx : Nat} (hl : Cond.fieldLink M.1.cls idx "jdk/internal/util/Preconditions" "SIOOBE_FORMATTER" "Ljava/util/function/BiFunction;" ∈ g_G) (hd : decode M.2.1 pc = .ok (.getstatic idx, 3)) (hp : pc + 3 = p') : gOk K Ms M pc (ga_push (.retAddr 0) p') :=
  gs_of fun L S Z I J => Or.inl ⟨_, _, rfl, fun p l e R s m args below meth c H locs ls cells slots Q hX hH hS hL kk => by subst hp; exact va_gets hX.1 hX.2.1 hX.2.2.2.2.2.2.2.2.2.1.2.2.2.2.2.2.1 hS hX.2.2.2.1 (hX.2.2.2.2.1 _ hl) (fun _ h => h) hd kk⟩
theorem gs_oinit {idx : Nat} (hl : Cond.methodLink M.1.cls idx Lib.objectInit ∈ g_G) (h1 : Cond.instanceMethod Lib.objectInit ∈ g_G) (h2 : Cond.code Lib.objectInit ⟨#[0xb1]⟩ 1 none ∈ g_G) (hf : 1 ≤ M.2.2.2.2.1) (hlo : 12 ≤ M.2.2.2.2.2) (hd : decode M.2.1 pc = .ok (.invokespecial idx, 3)) (hp : pc + 3 = p') : gOk K Ms M pc (ga_oinit p') := gs_of fun L S Z I J => by
  unfold ga_oinit
  split
  · refine Or.inl ⟨_, _, rfl, fun p l e R s m args below meth c H locs ls cells slots Q hX hH hS hL kk => ?_⟩
    subst hp
    refine W.objInit hX.1 hX.2.1 hX.2.2.2.1 (hX.2.2.2.2.1 _ hl) (hX.2.2.2.2.1 _ h1) (hX.2.2.2.2.1 _ h2) rfl (by rw [hX.2.2.1]; exact hL.2.1) rfl hd (Nat.le_trans hf hX.2.2.2.2.2.2.2.2.2.2.1) ?_ kk
    exact Nat.le_trans hlo hX.2.2.2.2.2.2.2.2.2.2.2
  · exact Or.inr rfl
theorem gs_max {idx : Nat} (hl : Cond.methodLink M.1.cls idx Lib.Math.max.name ∈ g_G) (h1 : Cond.static Lib.Math.max.name ∈ g_G) (h2 : Cond.initialized "java/lang/Math" ∈ g_G) (h3 : Cond.code Lib.Math.max.name Lib.Math.max.code 2 (some .int) ∈ g_G) (hf : 1 ≤ M.2.2.2.2.1) (hlo : 13 ≤ M.2.2.2.2.2) (hd : decode M.2.1 pc = .ok (.invokestatic idx, 3)) (hp : pc + 3 = p') : gOk K Ms M pc (ga_max p') := by
  intro L S Z I J
  unfold ga_max
  split
  · refine ⟨fun p1 L' S' Z' I' J' h => ?_, fun _ h => (by cases h), fun _ _ _ _ h => (by cases h)⟩
    cases h
    refine ⟨Nat.le_refl _, Nat.le_refl _, fun p l e R s m args below meth c H locs ls N0 T0 Q hX hH hS hL hs hN hT hc hsl kk => ?_⟩
    subst hp
    exact va_mmax hX.1 hX.2.1 (by rw [hX.2.2.1]; exact hL.2.1.symm) hX.2.2.2.1 (hX.2.2.2.2.1 _ hl) (hX.2.2.2.2.1 _ h1) (hX.2.2.2.2.1 _ h2) (hX.2.2.2.2.1 _ h3) (Nat.le_trans hf hX.2.2.2.2.2.2.2.2.2.2.1) (Nat.le_trans hlo hX.2.2.2.2.2.2.2.2.2.2.2) hc hsl hd (kk H locs ls hH hS hL)
  · exact ⟨fun _ _ _ _ _ _ h => (by cases h), fun _ h => (by cases h), fun _ _ _ _ h => (by cases h)⟩
theorem gs_abs {idx : Nat} (hl : Cond.methodLink M.1.cls idx Lib.Math.abs.name ∈ g_G) (h1 : Cond.static Lib.Math.abs.name ∈ g_G) (h2 : Cond.initialized "java/lang/Math" ∈ g_G) (h3 : Cond.code Lib.Math.abs.name Lib.Math.abs.code 1 (some .int) ∈ g_G) (hf : 1 ≤ M.2.2.2.2.1) (hlo : 13 ≤ M.2.2.2.2.2) (hd : decode M.2.1 pc = .ok (.invokestatic idx, 3)) (hp : pc + 3 = p') : gOk K Ms M pc (ga_abs p') := by
  intro L S Z I J
  unfold ga_abs
  split
  · refine ⟨fun p1 L' S' Z' I' J' h => ?_, fun _ h => (by cases h), fun _ _ _ _ h => (by cases h)⟩
    cases h
    refine ⟨Nat.le_refl _, Nat.le_refl _, fun p l e R s m args below meth c H locs ls N0 T0 Q hX hH hS hL hs hN hT hc hsl kk => ?_⟩
    subst hp
    exact va_mabs hX.1 hX.2.1 (by rw [hX.2.2.1]; exact hL.2.1.symm) hX.2.2.2.1 (hX.2.2.2.2.1 _ hl) (hX.2.2.2.2.1 _ h1) (hX.2.2.2.2.1 _ h2) (hX.2.2.2.2.1 _ h3) (Nat.le_trans hf hX.2.2.2.2.2.2.2.2.2.2.1) (Nat.le_trans hlo hX.2.2.2.2.2.2.2.2.2.2.2) hc hsl hd (kk H locs ls hH hS hL)
  · exact ⟨fun _ _ _ _ _ _ h => (by cases h), fun _ h => (by cases h), fun _ _ _ _ h => (by cases h)⟩
theorem gs_lcmp (hd : decode M.2.1 pc = .ok (.lcmp, 1)) (hp : pc + 1 = p') : gOk K Ms M pc (ga_lcmp p') := gs_of fun L S Z I J => by
  unfold ga_lcmp
  split
  · exact Or.inl ⟨_, _, rfl, fun p l e R s m args below meth c H locs ls cells slots Q hX hH hS hL k => by subst hp; exact W.lcmp hX.1 hX.2.1 hd k⟩
  · exact Or.inr rfl
theorem gs_copy {idx : Nat} (hl : Cond.methodLink M.1.cls idx arraycopyName ∈ g_G) (h1 : Cond.native arraycopyName ∈ g_G) (h2 : Cond.static arraycopyName ∈ g_G) (h3 : Cond.initialized "java/lang/System" ∈ g_G) (hf : 1 ≤ M.2.2.2.2.1) (hlo : nativeFrameWords "java/lang/System" "arraycopy" 5 + 11 ≤ M.2.2.2.2.2) (hd : decode M.2.1 pc = .ok (.invokestatic idx, 3)) (hp : pc + 3 = p') : gOk K Ms M pc (ga_copy p') := gs_ofW fun L S Z I J => by
  unfold ga_copy
  split
  · rename_i n dp a sp a0
    split
    · rename_i ha
      obtain ⟨ha, ha0, rfl, rfl, rfl⟩ := ha
      refine Or.inl ⟨_, _, _, _, _, rfl, rfl, rfl, fun p l e R s m args below meth c H locs ls cells slots Q hX hH hS hL kk => ?_⟩
      subst hp
      have t1 : (Z.2.2.1 a).1 = 8 := by rw [ha]
      have t0 : (Z.2.2.1 a0).1 = 8 := by rw [ha0]
      have he := hH.at (a := a) (by omega)
      have he0 := hH.at (a := a0) (by omega)
      rw [gE_int (Or.inl t1), ha] at he
      rw [gE_int (Or.inl t0), ha0] at he0
      refine va_copyi hX.1 hX.2.1 (by rw [hX.2.2.1]; exact hL.2.1.symm) hX.2.2.2.1 (hX.2.2.2.2.1 _ hl) (hX.2.2.2.2.1 _ h1) (hX.2.2.2.2.1 _ h2) (hX.2.2.2.2.1 _ h3) hX.2.2.2.2.2.2.2.2.1 hH.2.1 (gW_D hH.2.2.1) hS a0 a 0 0 he0 he rfl rfl rfl (by decide) (by decide) (by decide) (by decide) (by decide) (fun _ _ => rfl) (Nat.le_trans hf hX.2.2.2.2.2.2.2.2.2.2.1) (Nat.le_trans (by simpa using hlo) hX.2.2.2.2.2.2.2.2.2.2.2) hd (fun H1 locs1 hP1 _ hS1 => kk H1 locs1 (hH.wI (by omega) ?_ hP1) hS1)
      rw [gE_int (Or.inl t1), ha, up_eq]
      rfl
    · exact Or.inr rfl
  · exact Or.inr rfl
theorem gsw_in : ∀ {ts : List Nat} {lo x : Int} {d k : Nat}, lo ≤ x → ts[(x - lo).toNat]? = some k → gsw lo ts d x = k
  | [], lo, x, d, k, _, h => by simp at h
  | t :: r, lo, x, d, k, h0, h => by
    unfold gsw
    by_cases e : x = lo
    · subst e
      simp at h
      rw [if_pos rfl, h]
    · rw [if_neg e]
      have : (x - lo).toNat = (x - (lo + 1)).toNat + 1 := by omega
      rw [this] at h
      exact gsw_in (by omega) (by simpa using h)
theorem gsw_out : ∀ {ts : List Nat} {lo x : Int} {d : Nat}, x < lo ∨ lo + ts.length ≤ x → gsw lo ts d x = d
  | [], lo, x, d, _ => rfl
  | t :: r, lo, x, d, h => by
    simp only [List.length_cons] at h
    unfold gsw
    rw [if_neg (by omega)]
    exact gsw_out (by omega)
theorem gs_switch {dflt lo hi : Int} {offs : Array Int} {len : Nat} {ts : List Nat} {d : Nat} (hd : decode M.2.1 pc = .ok (.tableswitch dflt lo hi offs, len)) (h1 : (pc : Int) + dflt = (d : Int)) (h2 : offs.toList.map (fun o => (pc : Int) + o) = ts.map (fun (t : Nat) => (t : Int))) (h3 : hi + 1 - lo = ts.length) : gOk K Ms M pc (ga_switch lo ts d) := gs_of fun L S Z I J => by
  unfold ga_switch
  split
  · rename_i x S
    refine Or.inl ⟨_, _, rfl, fun p l e R s m args below meth c H locs ls cells slots Q hX hH hS hL kk => ?_⟩
    by_cases hin : x.toInt < lo ∨ hi < x.toInt
    · rw [gsw_out (by omega)] at kk
      exact lv_tableOut hX.1 hX.2.1 hd hin h1 kk
    · have hlt : (x.toInt - lo).toNat < ts.length := by omega
      have hg : ts[(x.toInt - lo).toNat]? = some ts[(x.toInt - lo).toNat] := List.getElem?_eq_getElem hlt
      rw [gsw_in (by omega) hg] at kk
      have hm : (offs.toList.map (fun o => (pc : Int) + o))[(x.toInt - lo).toNat]? = some ((ts[(x.toInt - lo).toNat] : Nat) : Int) := by rw [h2, List.getElem?_map, hg]; rfl
      rw [List.getElem?_map] at hm
      cases ho : offs.toList[(x.toInt - lo).toNat]? with
      | none => rw [ho] at hm; cases hm
      | some off =>
        rw [ho] at hm
        exact lv_tableIn (off := off) hX.1 hX.2.1 hd (by omega) (by omega) (by rw [← Array.getElem?_toList]; exact ho) (Option.some.inj hm) kk
  · exact Or.inr rfl
theorem gs_ret {a : gAc} (h : ∀ L S Z I J, (∃ v, a L S Z I J = some (.inr (.inl v)) ∧ gRt K M pc S v) ∨ a L S Z I J = none) : gOk K Ms M pc a := by
  intro L S Z I J
  rcases h L S Z I J with ⟨v, he, hw⟩ | he
  · refine ⟨fun _ _ _ _ _ _ h => (by rw [he] at h; cases h), fun v' h => ?_, fun _ _ _ _ h => (by rw [he] at h; cases h)⟩
    rw [he] at h
    cases h
    exact hw
  · exact ⟨fun _ _ _ _ _ _ h => (by rw [he] at h; cases h), fun _ h => (by rw [he] at h; cases h), fun _ _ _ _ h => (by rw [he] at h; cases h)⟩
theorem gs_iret (hd : decode M.2.1 pc = .ok (.ireturn, 1)) (hr : M.2.2.2.1 = some .int) : gOk K Ms M pc ga_iret := gs_ret fun L S Z I J => by
  unfold ga_iret
  split
  · exact Or.inl ⟨_, rfl, Or.inl ⟨hd, _, .int, rfl, rfl, hr, rfl⟩⟩
  · exact Or.inr rfl
theorem gs_zret (hd : decode M.2.1 pc = .ok (.ireturn, 1)) {ty : FieldType} (hr : M.2.2.2.1 = some ty) (h0 : narrow ty (.int 0) = .int 0) (h1 : narrow ty (.int 1) = .int 1) : gOk K Ms M pc ga_zret := gs_ret fun L S Z I J => by
  unfold ga_zret
  split
  · split
    · rename_i hx
      exact Or.inl ⟨_, rfl, Or.inl ⟨hd, _, ty, rfl, rfl, hr, (by rcases hx with rfl | rfl <;> assumption)⟩⟩
    · exact Or.inr rfl
  · exact Or.inr rfl
theorem gs_cret (hd : decode M.2.1 pc = .ok (.ireturn, 1)) (hr : M.2.2.2.1 = some .char) : gOk K Ms M pc ga_cret := gs_ret fun L S Z I J => by
  unfold ga_cret
  split
  · split
    · rename_i hx
      exact Or.inl ⟨_, rfl, Or.inl ⟨hd, _, .char, rfl, rfl, hr, hx⟩⟩
    · exact Or.inr rfl
  · exact Or.inr rfl
theorem gs_aret (hd : decode M.2.1 pc = .ok (.areturn, 1)) {n : String} (hr : M.2.2.2.1 = some (.object n)) : gOk K Ms M pc ga_aret := gs_ret fun L S Z I J => by
  unfold ga_aret
  split
  · exact Or.inl ⟨_, rfl, Or.inr (Or.inl ⟨hd, _, n, rfl, rfl, hr⟩)⟩
  · exact Or.inr rfl
theorem gs_vret (hd : decode M.2.1 pc = .ok (.return_, 1)) (hr : M.2.2.2.1 = none) : gOk K Ms M pc ga_vret := gs_ret fun L S Z I J => by
  unfold ga_vret
  split
  · exact Or.inl ⟨_, rfl, Or.inr (Or.inr ⟨hd, rfl, rfl, hr⟩)⟩
  · exact Or.inr rfl
theorem g_blind {Z : gZ} {I : gI} {J : gJ} {As : List Value} : FrameBlind (va_Pc As (gPre K Z I J)) := fun a U g mk h => ⟨h.1, h.2.1, va_K.moved (u := U) (U := U.calling g mk a) (Vm.Alike.refl U.vm) h.2.2.1, gSp.same (s := U) (U := U.calling g mk a) rfl h.2.2.2⟩
theorem g_pre {Z : gZ} {I : gI} {J : gJ} {As : List Value} (hX : gX K M p R s m args meth c) (hH : gH K Z I J H) (hS : va_S (gA K) s.heap H locs) : ∀ U : State, U.heap = H → s.WarmedH U.vm → va_Pc As (gPre K Z I J) As.toArray U := fun U hU hW => ⟨rfl, by rw [hU]; exact hH, va_K.moved hW.alike hX.2.2.2.2.2.2.2.2.1, by rw [hU]; exact hX.2.2.2.2.2.2.2.2.2.1.warm hW hS.2.1⟩
theorem g_callk {v : Option Value} {Z' : gZ} {I' : gI} {J' : gJ} {cells mc ms : Nat} {ls : Array Slot} {rest st0 : List Value} {a : Array Value} (hr : va_Run p l e R s m args below meth c H locs cells slots mc ms (F0 m pc ls st0) rest (gPost K v Z' I' J' a) (gA K)) (hS : va_S (gA K) s.heap H locs)
    (kk : ∀ (H1 : Heap) (locs1 : List Loc), gH K Z' I' J' H1 → va_S (gA K) s.heap H1 locs1 → W p l e R s m args below meth c H1 locs1 (cells + mc) (slots + ms) Q (F0 m (pc + 3) ls ((v.map (gCv K)).toList ++ rest))) : W p l e R s m args below meth c H locs cells slots Q (F0 m pc ls st0) := by
  intro T hT X
  obtain ⟨v0, st₀, t, T', L, h0, X', hL, e1, e2, ⟨hv, hH, hz, hk⟩, st⟩ := hr T hT X
  cases hv
  rw [h0] at hz hk
  obtain ⟨t2, a1, b1⟩ := kk T'.heap (locs ++ L) (by rw [e1]; exact hH)
    ⟨Nat.le_trans hS.1 (by rw [e1]; exact hz), fun q h1 h2 => by rw [e1, hk q (Nat.lt_of_lt_of_le h1 hS.1) h2]; exact hS.2.1 q h1 h2, fun q hq => by
      rcases List.mem_append.mp hq with h | h
      · exact hS.2.2 q h
      · exact hL q h⟩ T' rfl X'
  exact ⟨t2, st t2 a1, b1⟩
theorem g_tl {v : Option Value} {S' : List Value} : (v.map (gCv K)).toList ++ S'.map (gCv K) = (v.toList ++ S').map (gCv K) := by cases v <;> simp
theorem g_sum {S' : List Value} (hK : K.2.2.2.2.1 = .null ∨ ∃ t, K.2.2.2.2.1 = .ref t) : ((S'.map (gCv K)).map fun v => v.category).sum = (S'.map Value.category).sum := by
  rw [List.map_map]
  congr 1
  apply List.map_congr_left
  intro v _
  exact gCv_cat hK
/-- what a call needs of its callee -/
def gCe (M M2 : gM) (n : Nat) : Prop := Cond.initialized M2.1.cls ∈ g_G ∧ Cond.code M2.1 M2.2.1 M2.2.2.1 M2.2.2.2.1 ∈ g_G ∧ (M2.1.cls ≠ "java/lang/invoke/MethodHandle" ∧ M2.1.cls ≠ "java/lang/invoke/VarHandle" ∧ (parseMethodDescriptor M2.1.desc).map (fun d => d.parameters.length) = some n) ∧ M2.2.2.2.2.1 + 1 ≤ M.2.2.2.2.1 ∧ 8 + (M2.2.2.1 + 11) + M2.2.2.2.2.2 ≤ M.2.2.2.2.2
theorem gCe.B {M2 : gM} {n idx mc ms : Nat} (h : gCe M M2 n) (hX : gX K M p R s m args meth c) (hl : Cond.methodLink M.1.cls idx M2.1 ∈ g_G) : CallB R s args M.1.cls idx M2.1 M2.2.1 M2.2.2.1 M2.2.2.2.1 (gWs M2) { frames := M2.2.2.2.2.1, cells := mc, slots := ms, locals := M2.2.2.2.2.2 } mc ms n := by
  refine callB_of (Ts := g_G) n hX.2.2.2.2.1 (g_goodIn (fun _ h => h) ?_) rfl rfl rfl (hX.2.2.2.2.1 _ h.1) (hX.2.2.2.2.1 _ hl) h.2.2.1 ⟨Nat.le_trans h.2.2.2.1 hX.2.2.2.2.2.2.2.2.2.2.1, Nat.le_trans h.2.2.2.2 hX.2.2.2.2.2.2.2.2.2.2.2⟩
  intro w hw
  rcases List.mem_cons.mp hw with rfl | hw
  · exact h.2.1
  · exact hw
theorem gs_callS {z n idx : Nat} (hC : gCe M (Ms z) n) (hl : Cond.methodLink M.1.cls idx (Ms z).1 ∈ g_G) (hst : Cond.static (Ms z).1 ∈ g_G) (hd : decode M.2.1 pc = .ok (.invokestatic idx, 3)) (hp : pc + 3 = p') : gOk K Ms M pc (ga_call z n p') := by
  intro L S Z I J
  unfold ga_call
  split
  · rename_i hn
    refine ⟨fun _ _ _ _ _ _ h => (by cases h), fun _ h => (by cases h), fun z' As p2 S' h => ?_⟩
    cases h
    intro v Z' I' J' p l e R s m args below meth c H locs ls N0 T0 Q hM hz1 hz2 hX hH hS hL hs hN hT hc hsl kk
    subst hp
    have hlen : (S.take n).length = n := by simp; omega
    have := va_runS (As := (S.take n).reverse.map (gCv K)) (rest := (S.drop n).map (gCv K)) (cells := Z.1 - N0) (slots := Z.2.1 - T0) (locs := locs) (H := H) (g := F0 m pc ls (S.map (gCv K))) (e := e) (below := below) (meth := meth) ⟨hX.1, hX.2.1, hX.2.2.1, hX.2.2.2.1, hX.2.2.2.2.1⟩ hM ⟨hC.B hX hl, hX.2.2.2.2.1 _ hst⟩ ⟨g_blind, g_pre hX hH hS⟩ rfl (by simp; omega) hL.2.1 (by
      show S.map (gCv K) = _
      rw [← List.map_reverse, List.reverse_reverse, ← List.map_append, List.take_append_drop]) (lv_room (by rw [g_sum hX.fv]; exact hn.2)) hd ⟨by omega, by omega⟩
    refine g_callk this hS (fun H1 locs1 hH1 hS1 => ?_)
    rw [show Z.1 - N0 + (Z'.1 - Z.1) = Z'.1 - N0 by omega, show Z.2.1 - T0 + (Z'.2.1 - Z.2.1) = Z'.2.1 - T0 by omega, g_tl]
    exact kk H1 locs1 hH1 hS1
  · exact ⟨fun _ _ _ _ _ _ h => (by cases h), fun _ h => (by cases h), fun _ _ _ _ h => (by cases h)⟩
theorem g_stk {S : List Value} {n a : Nat} (h : S[n]? = some (.ref a)) : S.map (gCv K) = ((S.take n).reverse.map (gCv K)).reverse ++ .ref (gAd K a) :: (S.drop (n + 1)).map (gCv K) := by
  have h1 : n < S.length := (List.getElem?_eq_some_iff.mp h).1
  have h2 : S[n] = .ref a := (List.getElem?_eq_some_iff.mp h).2
  rw [← List.map_reverse, List.reverse_reverse]
  have e : S = S.take n ++ .ref a :: S.drop (n + 1) := by
    rw [← h2, List.getElem_cons_drop, List.take_append_drop]
  conv => lhs; rw [e]
  simp [gCv]
theorem g_recv {Z : gZ} {I : gI} {J : gJ} {a ci : Nat} {C : String} {T : u_T} {N : Nat} {ty : Nat → FieldType} (hc : gCls ci C T N ty) (hX : gX K M p R s m args meth c) (hH : gH K Z I J H) (ha : (Z.2.2.1 a).1 = ci) : ∃ cellB : Cell, H[gAd K a]? = some cellB ∧ cellB.vm.isStatics = false ∧ s.vm.findClass C = some cellB.cls := by
  have h8 := hc.2.2.2.2.2.2.1
  have he := hH.at (a := a) (by omega)
  rw [gE_obj (by omega), ha] at he
  exact va_recv hX.2.2.2.2.2.2.2.2.1 hH.2.1 hc.1 he
theorem gs_callV0 {z n idx ci : Nat} {C : String} (hr : ∀ (p : Program) (R : Room) (s : State) (m : MethodId) (args : Array Value) (meth : Method) (c : Code) (H : Heap) (locs : List Loc) (Z : gZ) (I : gI) (J : gJ) (a : Nat), gX K M p R s m args meth c → gH K Z I J H → va_S (gA K) s.heap H locs → (Z.2.2.1 a).1 = ci ∧ (ci = 12 → 1000 ≤ a) → ∃ cellB : Cell, H[gAd K a]? = some cellB ∧ cellB.vm.isStatics = false ∧ s.vm.findClass C = some cellB.cls)
    (hC : gCe M (Ms z) n) (hl : Cond.methodLink M.1.cls idx (Ms z).1 ∈ g_G) (hst : Cond.instanceMethod (Ms z).1 ∈ g_G) (hse : Cond.selects C (Ms z).1 (Ms z).1 ∈ g_G) (hd : decode M.2.1 pc = .ok (.invokevirtual idx, 3)) (hp : pc + 3 = p') : gOk K Ms M pc (ga_callV ci z n p') := by
  intro L S Z I J
  unfold ga_callV
  split
  · rename_i a ha
    split
    · rename_i hn
      refine ⟨fun _ _ _ _ _ _ h => (by cases h), fun _ h => (by cases h), fun z' As p2 S' h => ?_⟩
      cases h
      intro v Z' I' J' p l e R s m args below meth c H locs ls N0 T0 Q hM hz1 hz2 hX hH hS hL hs hN hT hc hsl kk
      subst hp
      have h1 : n < S.length := (List.getElem?_eq_some_iff.mp ha).1
      have := va_runV (As := (S.take n).reverse.map (gCv K)) (rest := (S.drop (n + 1)).map (gCv K)) (b := gAd K a) (cells := Z.1 - N0) (slots := Z.2.1 - T0) (locs := locs) (H := H) (g := F0 m pc ls (S.map (gCv K))) (e := e) (below := below) (meth := meth) (C := C) ⟨hX.1, hX.2.1, hX.2.2.1, hX.2.2.2.1, hX.2.2.2.2.1⟩ hM ⟨hC.B hX hl, hX.2.2.2.2.1 _ hst, hX.2.2.2.2.1 _ hse⟩ ⟨g_blind, hr p R s m args meth c H locs Z I J a hX hH hS hn.1, g_pre (As := .ref (gAd K a) :: (S.take n).reverse.map (gCv K)) hX hH hS⟩ rfl (by simp; omega) hL.2.1 (g_stk ha) (lv_room (by rw [g_sum hX.fv]; exact hn.2)) hd ⟨by omega, by omega⟩
      refine g_callk this hS (fun H1 locs1 hH1 hS1 => ?_)
      rw [show Z.1 - N0 + (Z'.1 - Z.1) = Z'.1 - N0 by omega, show Z.2.1 - T0 + (Z'.2.1 - Z.2.1) = Z'.2.1 - T0 by omega, g_tl]
      exact kk H1 locs1 hH1 hS1
    · exact ⟨fun _ _ _ _ _ _ h => (by cases h), fun _ h => (by cases h), fun _ _ _ _ h => (by cases h)⟩
  · exact ⟨fun _ _ _ _ _ _ h => (by cases h), fun _ h => (by cases h), fun _ _ _ _ h => (by cases h)⟩
theorem gs_callV {z n idx ci : Nat} {C : String} {T : u_T} {N : Nat} {ty : Nat → FieldType} (hc : gCls ci C T N ty) (hC : gCe M (Ms z) n) (hl : Cond.methodLink M.1.cls idx (Ms z).1 ∈ g_G) (hst : Cond.instanceMethod (Ms z).1 ∈ g_G) (hse : Cond.selects C (Ms z).1 (Ms z).1 ∈ g_G) (hd : decode M.2.1 pc = .ok (.invokevirtual idx, 3)) (hp : pc + 3 = p') : gOk K Ms M pc (ga_callV ci z n p') :=
  gs_callV0 (fun p R s m args meth c H locs Z I J a hX hH hS ha => g_recv hc hX hH ha.1) hC hl hst hse hd hp
theorem gs_callT {z n idx : Nat} (hC : gCe M (Ms z) n) (hl : Cond.methodLink M.1.cls idx (Ms z).1 ∈ g_G) (hst : Cond.instanceMethod (Ms z).1 ∈ g_G) (hse : Cond.selects "java/lang/String" (Ms z).1 (Ms z).1 ∈ g_G) (hd : decode M.2.1 pc = .ok (.invokevirtual idx, 3)) (hp : pc + 3 = p') : gOk K Ms M pc (ga_callV 12 z n p') :=
  gs_callV0 (fun p R s m args meth c H locs Z I J a hX hH hS ha => by
    have hlo := ha.2 rfl
    have e1 := (hH.2.2.2.2 a hlo).1
    have hT := (hX.2.2.2.2.2.2.2.2.2.1.2.2.1 a (Z.2.2.1 a).2 hlo (by rw [← e1, ← ha.1])).1
    obtain ⟨cell, q1, q2, q3, -⟩ := hT.kept hS.2.1
    exact ⟨cell, q1, q2, q3⟩) hC hl hst hse hd hp
theorem gs_callI {z n idx : Nat} (hC : gCe M (Ms z) n) (hl : Cond.methodLink M.1.cls idx (Ms z).1 ∈ g_G) (hst : Cond.instanceMethod (Ms z).1 ∈ g_G) (hi : (Ms z).1.name = "<init>") (hrt : (Ms z).2.2.2.1 = none) (hd : decode M.2.1 pc = .ok (.invokespecial idx, 3)) (hp : pc + 3 = p') : gOk K Ms M pc (ga_callI z n p') := by
  intro L S Z I J
  unfold ga_callI
  split
  · rename_i a ha
    split
    · rename_i hn
      refine ⟨fun _ _ _ _ _ _ h => (by cases h), fun _ h => (by cases h), fun z' As p2 S' h => ?_⟩
      cases h
      intro v Z' I' J' p l e R s m args below meth c H locs ls N0 T0 Q hM hz1 hz2 hX hH hS hL hs hN hT hc hsl kk
      subst hp
      have h1 : n < S.length := (List.getElem?_eq_some_iff.mp ha).1
      have hB := hC.B (idx := idx) (mc := Z'.1 - Z.1) (ms := Z'.2.1 - Z.2.1) hX hl
      rw [hrt] at hB
      have := va_runI (As := (S.take n).reverse.map (gCv K)) (rest := (S.drop (n + 1)).map (gCv K)) (b := gAd K a) (cells := Z.1 - N0) (slots := Z.2.1 - T0) (locs := locs) (H := H) (g := F0 m pc ls (S.map (gCv K))) (e := e) (below := below) (meth := meth) ⟨hX.1, hX.2.1, hX.2.2.1, hX.2.2.2.1, hX.2.2.2.2.1⟩ hM ⟨hB, hi, hX.2.2.2.2.1 _ hst⟩ ⟨g_blind, g_pre (As := .ref (gAd K a) :: (S.take n).reverse.map (gCv K)) hX hH hS⟩ rfl (by simp; omega) hL.2.1 (g_stk ha) (lv_room (by rw [g_sum hX.fv]; exact hn)) hd ⟨by omega, by omega⟩
      refine g_callk this hS (fun H1 locs1 hH1 hS1 => ?_)
      rw [show Z.1 - N0 + (Z'.1 - Z.1) = Z'.1 - N0 by omega, show Z.2.1 - T0 + (Z'.2.1 - Z.2.1) = Z'.2.1 - T0 by omega, g_tl]
      exact kk H1 locs1 hH1 hS1
    · exact ⟨fun _ _ _ _ _ _ h => (by cases h), fun _ h => (by cases h), fun _ _ _ _ h => (by cases h)⟩
  · exact ⟨fun _ _ _ _ _ _ h => (by cases h), fun _ h => (by cases h), fun _ _ _ _ h => (by cases h)⟩
/-- the one private constructor of a nest mate -/
theorem gs_callN {z : Nat} (hz : (Ms z).1 = yX5_init) (hM1 : M.1.cls = "HundredGongs$Foretelling") (hC : gCe M (Ms z) 0) (hst : Cond.instanceMethod (Ms z).1 ∈ g_G) (hrt : (Ms z).2.2.2.1 = none) (hd : decode M.2.1 pc = .ok (.invokespecial 20, 3)) (hp : pc + 3 = p') : gOk K Ms M pc (ga_callI z 0 p') := by
  intro L S Z I J
  unfold ga_callI
  split
  · rename_i a ha
    split
    · rename_i hn
      refine ⟨fun _ _ _ _ _ _ h => (by cases h), fun _ h => (by cases h), fun z' As p2 S' h => ?_⟩
      cases h
      intro v Z' I' J' p l e R s m args below meth c H locs ls N0 T0 Q hM hz1 hz2 hX hH hS hL hs hN hT hc hsl kk
      subst hp
      have h1 : 0 < S.length := (List.getElem?_eq_some_iff.mp ha).1
      have hG : GoodIn g_G (gWs (Ms z)) := g_goodIn (fun _ h => h) (fun w hw => by
        rcases List.mem_cons.mp hw with rfl | hw
        · exact hC.2.1
        · exact hw)
      have hB := va_cnB (R := R) (s := s) (args := args) (own := M.1.cls) (host := "HundredGongs") (index := 20) (y := (Ms z).1) (rm := { frames := (Ms z).2.2.2.2.1, cells := Z'.1 - Z.1, slots := Z'.2.1 - Z.2.1, locals := (Ms z).2.2.2.2.2 }) (mc := Z'.1 - Z.1) (ms := Z'.2.1 - Z.2.1) 0 hX.2.2.2.2.1 hG rfl rfl rfl (by rw [hM1, hz]; exact hX.2.2.2.2.2.2.2.2.2.1.2.2.2.2.2.2.2.2.1) (hX.2.2.2.2.1 _ hC.1) hC.2.2.1 ⟨Nat.le_trans hC.2.2.2.1 hX.2.2.2.2.2.2.2.2.2.2.1, Nat.le_trans hC.2.2.2.2 hX.2.2.2.2.2.2.2.2.2.2.2⟩
      rw [hrt] at hB
      have := va_runIN (As := (S.take 0).reverse.map (gCv K)) (rest := (S.drop (0 + 1)).map (gCv K)) (b := gAd K a) (cells := Z.1 - N0) (slots := Z.2.1 - T0) (locs := locs) (H := H) (g := F0 m pc ls (S.map (gCv K))) (e := e) (below := below) (meth := meth) ⟨hX.1, hX.2.1, hX.2.2.1, hX.2.2.2.1, hX.2.2.2.2.1⟩ hM ⟨hB, by rw [hz]; rfl, hX.2.2.2.2.1 _ hst⟩ ⟨g_blind, g_pre (As := .ref (gAd K a) :: (S.take 0).reverse.map (gCv K)) hX hH hS⟩ rfl (by simp) hL.2.1 (g_stk ha) (lv_room (by rw [g_sum hX.fv]; exact hn)) hd ⟨by omega, by omega⟩
      refine g_callk this hS (fun H1 locs1 hH1 hS1 => ?_)
      rw [show Z.1 - N0 + (Z'.1 - Z.1) = Z'.1 - N0 by omega, show Z.2.1 - T0 + (Z'.2.1 - Z.2.1) = Z'.2.1 - T0 by omega, g_tl]
      exact kk H1 locs1 hH1 hS1
    · exact ⟨fun _ _ _ _ _ _ h => (by cases h), fun _ h => (by cases h), fun _ _ _ _ h => (by cases h)⟩
  · exact ⟨fun _ _ _ _ _ _ h => (by cases h), fun _ h => (by cases h), fun _ _ _ _ h => (by cases h)⟩
end GN
