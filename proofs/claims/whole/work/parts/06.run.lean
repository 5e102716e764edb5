/-! THE RUN of the abstract machine, its limit, and that the machine does the same -/
/-- the locals at a method's entry -/
def gSl : List Value → List Value
  | [] => []
  | .long x :: r => .long x :: .null :: gSl r
  | .double x :: r => .double x :: .null :: gSl r
  | v :: r => v :: gSl r
def gEn (n : Nat) (As : List Value) : List Value := gSl As ++ List.replicate (n - (gSl As).length) .null
abbrev gR : Type := Option Value × gZ × gI × gJ
def g_run (Ms : Nat → gM) (Pg : Nat → Nat → gAc) : Nat → Nat → Nat → List Value → List Value → gZ → gI → gJ → Option gR
  | 0, _, _, _, _, _, _, _ => none
  | n + 1, y, pc, L, S, Z, I, J => match Pg y pc L S Z I J with
    | none => none
    | some (.inl (p', L', S', Z', I', J')) => g_run Ms Pg n y p' L' S' Z' I' J'
    | some (.inr (.inl v)) => some (v, Z, I, J)
    | some (.inr (.inr (z, As, p', S'))) => if (gEn (Ms z).2.2.1 As).length = (Ms z).2.2.1 then (match g_run Ms Pg n z 0 (gEn (Ms z).2.2.1 As) [] Z I J with
      | none => none
      | some (v, Z', I', J') => g_run Ms Pg n y p' L (v.toList ++ S') Z' I' J') else none
section GR
variable {Ms : Nat → gM} {Pg : Nat → Nat → gAc}
theorem g_run_mono : ∀ {n : Nat} {y pc : Nat} {L S : List Value} {Z : gZ} {I : gI} {J : gJ} {r : gR}, g_run Ms Pg n y pc L S Z I J = some r → g_run Ms Pg (n + 1) y pc L S Z I J = some r
  | 0, y, pc, L, S, Z, I, J, r, h => by simp [g_run] at h
  | n + 1, y, pc, L, S, Z, I, J, r, h => by
    rw [g_run] at h ⊢
    split at h
    · cases h
    · exact g_run_mono h
    · exact h
    · rename_i z As p' S' e
      split at h
      · rename_i hl
        rw [if_pos hl]
        split at h
        · cases h
        · rename_i e2
          rw [g_run_mono e2]
          exact g_run_mono h
      · cases h
theorem g_run_le {n m : Nat} (hm : n ≤ m) {y pc : Nat} {L S : List Value} {Z : gZ} {I : gI} {J : gJ} {r : gR} (h : g_run Ms Pg n y pc L S Z I J = some r) : g_run Ms Pg m y pc L S Z I J = some r := by
  induction hm with
  | refl => exact h
  | step _ ih => exact g_run_mono ih
/-- what comes of it at last -/
noncomputable def g_lim (Ms : Nat → gM) (Pg : Nat → Nat → gAc) (y pc : Nat) (L S : List Value) (Z : gZ) (I : gI) (J : gJ) : Option gR :=
  @dite (Option gR) (∃ n r, g_run Ms Pg n y pc L S Z I J = some r) (Classical.propDecidable _) (fun h => g_run Ms Pg (Classical.choose h) y pc L S Z I J) (fun _ => none)
theorem g_lim_of {n y pc : Nat} {L S : List Value} {Z : gZ} {I : gI} {J : gJ} {r : gR} (h : g_run Ms Pg n y pc L S Z I J = some r) : g_lim Ms Pg y pc L S Z I J = some r := by
  have hex : ∃ n r, g_run Ms Pg n y pc L S Z I J = some r := ⟨n, r, h⟩
  unfold g_lim
  rw [dif_pos hex]
  obtain ⟨r', hr'⟩ := Classical.choose_spec hex
  rw [hr']
  have h1 := g_run_le (Nat.le_max_left n (Classical.choose hex)) h
  have h2 := g_run_le (Nat.le_max_right n (Classical.choose hex)) hr'
  exact h2.symm.trans h1
theorem g_lim_some {y pc : Nat} {L S : List Value} {Z : gZ} {I : gI} {J : gJ} {r : gR} (h : g_lim Ms Pg y pc L S Z I J = some r) : ∃ n, g_run Ms Pg n y pc L S Z I J = some r := by
  unfold g_lim at h
  split at h
  · exact ⟨_, h⟩
  · cases h
theorem g_lim_nx {y pc p' : Nat} {L S L' S' : List Value} {Z Z' : gZ} {I I' : gI} {J J' : gJ} (h : Pg y pc L S Z I J = some (.inl (p', L', S', Z', I', J'))) : g_lim Ms Pg y pc L S Z I J = g_lim Ms Pg y p' L' S' Z' I' J' := by
  apply Option.ext
  intro r
  constructor
  · intro hr
    obtain ⟨n, hn⟩ := g_lim_some hr
    cases n with
    | zero => simp [g_run] at hn
    | succ n =>
      rw [g_run, h] at hn
      exact g_lim_of hn
  · intro hr
    obtain ⟨n, hn⟩ := g_lim_some hr
    refine g_lim_of (n := n + 1) ?_
    rw [g_run, h]
    exact hn
theorem g_lim_rt {y pc : Nat} {L S : List Value} {Z : gZ} {I : gI} {J : gJ} {v : Option Value} (h : Pg y pc L S Z I J = some (.inr (.inl v))) : g_lim Ms Pg y pc L S Z I J = some (v, Z, I, J) := by
  refine g_lim_of (n := 1) ?_
  rw [g_run, h]
theorem g_lim_ca {y pc z p' : Nat} {L S As S' : List Value} {Z : gZ} {I : gI} {J : gJ} (h : Pg y pc L S Z I J = some (.inr (.inr (z, As, p', S')))) (hl : (gEn (Ms z).2.2.1 As).length = (Ms z).2.2.1) : g_lim Ms Pg y pc L S Z I J = (g_lim Ms Pg z 0 (gEn (Ms z).2.2.1 As) [] Z I J).bind (fun r => g_lim Ms Pg y p' L (r.1.toList ++ S') r.2.1 r.2.2.1 r.2.2.2) := by
  apply Option.ext
  intro r
  rw [Option.bind_eq_some_iff]
  constructor
  · intro hr
    obtain ⟨n, hn⟩ := g_lim_some hr
    cases n with
    | zero => simp [g_run] at hn
    | succ n =>
      rw [g_run, h] at hn
      simp only [if_pos hl] at hn
      split at hn
      · cases hn
      · rename_i e
        exact ⟨_, g_lim_of e, g_lim_of hn⟩
  · rintro ⟨⟨v, Z1, I1, J1⟩, h1, h2⟩
    obtain ⟨n, hn⟩ := g_lim_some h1
    obtain ⟨m, hm⟩ := g_lim_some h2
    refine g_lim_of (n := max n m + 1) ?_
    rw [g_run, h]
    simp only [if_pos hl, g_run_le (Nat.le_max_left n m) hn]
    exact g_run_le (Nat.le_max_right n m) hm
theorem gl_nulls {K : gC} : ∀ (k i : Nat), gl K i (List.replicate k .null) = []
  | 0, _ => rfl
  | k + 1, i => by rw [List.replicate_succ, gl, if_pos rfl]; exact gl_nulls k (i + 1)
theorem gl_args {K : gC} (hK : K.2.2.2.2.1 = .null ∨ ∃ t, K.2.2.2.2.1 = .ref t) {k : Nat} {q : Nat × Value} : ∀ {As : List Value} {i : Nat}, q ∈ gl K i (gSl As ++ List.replicate k .null) → q ∈ lv_args i (As.map (gCv K))
  | [], i, h => by rw [gSl, List.nil_append, gl_nulls] at h; cases h
  | v :: r, i, h => by
    have hc : (gCv K v).category = v.category := gCv_cat hK
    rw [List.map_cons, lv_args, hc]
    cases v with
    | long x =>
      simp only [gSl, List.cons_append, gl, reduceCtorEq, if_false, if_true] at h
      rcases List.mem_cons.mp h with h | h
      · exact List.mem_cons.mpr (Or.inl h)
      · exact List.mem_cons_of_mem _ (gl_args hK h)
    | null =>
      simp only [gSl, List.cons_append, gl, if_true] at h
      exact List.mem_cons_of_mem _ (gl_args hK h)
    | double x =>
      simp only [gSl, List.cons_append, gl, reduceCtorEq, if_false, if_true] at h
      rcases List.mem_cons.mp h with h | h
      · exact List.mem_cons.mpr (Or.inl h)
      · exact List.mem_cons_of_mem _ (gl_args hK h)
    | _ =>
      simp only [gSl, List.cons_append, gl, reduceCtorEq, if_false] at h
      rcases List.mem_cons.mp h with h | h
      · exact List.mem_cons.mpr (Or.inl h)
      · exact List.mem_cons_of_mem _ (gl_args hK h)
theorem g_ent {K : gC} (hK : K.2.2.2.2.1 = .null ∨ ∃ t, K.2.2.2.2.1 = .ref t) {n : Nat} {As : List Value} (hl : (gEn n As).length = n) : gLs K n ((lg_sl (As.map (gCv K)) ++ List.replicate (n - (lg_sl (As.map (gCv K))).length) Slot.unset).toArray) (gEn n As) := by
  have hlen : ∀ As : List Value, (lg_sl (As.map (gCv K))).length = (gSl As).length := by
    intro As
    induction As with
    | nil => rfl
    | cons v r ih =>
      have hc : (gCv K v).category = v.category := gCv_cat hK
      have e : lg_sl ((v :: r).map (gCv K)) = (if (gCv K v).category = 2 then [.val (gCv K v), .second] else [.val (gCv K v)]) ++ lg_sl (r.map (gCv K)) := by simp [lg_sl]
      rw [e, List.length_append, ih, hc]
      cases v <;> simp [gSl, Value.category] <;> omega
  have hle : (gSl As).length ≤ n := by
    rw [gEn, List.length_append, List.length_replicate] at hl
    omega
  refine ⟨hl, ?_⟩
  obtain ⟨h1, h2, h3⟩ := lv_entry (As.map (gCv K)) (n := n) (by rw [hlen]; exact hle)
  exact ⟨h1, h2, fun q hq => h3 q (gl_args hK hq)⟩
theorem g_ret {K : gC} {M : gM} {p : Program} {l : Launch} {e : Env} {R : Room} {s : State} {m : MethodId} {args : Array Value} {below : List Frame} {meth : Method} {c : Code} {H : Heap} {locs : List Loc} {cells slots pc : Nat} {S : List Value} {v : Option Value} {Z : gZ} {I : gI} {J : gJ} {ls : Array Slot} (hX : gX K M p R s m args meth c) (hr : gRt K M pc S v) (hH : gH K Z I J H) (hS : va_S (gA K) s.heap H locs) : W p l e R s m args below meth c H locs cells slots (MQ below (gPost K v Z I J) args s cells slots (gA K)) (F0 m pc ls (S.map (gCv K))) := by
  rcases hr with ⟨hd, x, ty, rfl, rfl, hty, hn⟩ | ⟨hd, k, n, rfl, rfl, hty⟩ | ⟨hd, rfl, rfl, hty⟩
  · exact W.zret (hlocks := hX.2.2.2.2.2.2.1) hX.1 hX.2.1 (hX.2.2.2.2.2.1.trans hty) hn (fun t ht _ => ⟨rfl, by rw [ht]; exact hH, hS.F ht⟩) hS.2.2 hd
  · exact W.aret (hlocks := hX.2.2.2.2.2.2.1) hX.1 hX.2.1 (hX.2.2.2.2.2.1.trans hty) (Or.inl ⟨n, rfl⟩) (Or.inr ⟨_, rfl⟩) (fun t ht _ => ⟨rfl, by rw [ht]; exact hH, hS.F ht⟩) hS.2.2 hd
  · exact W.vret (hlocks := hX.2.2.2.2.2.2.1) hX.1 hX.2.1 (hX.2.2.2.2.2.1.trans hty) (fun t ht _ => ⟨rfl, by rw [ht]; exact hH, hS.F ht⟩) hS.2.2 hd
/-- THE MACHINE DOES THE SAME -/
theorem g_mach {K : gC} (hOk : ∀ y pc, gOk K Ms (Ms y) pc (Pg y pc)) (hpl : ∀ y, plainName (Ms y).1.cls = true) : ∀ (n y pc : Nat) (L S : List Value) (Z : gZ) (I : gI) (J : gJ) (v : Option Value) (Z' : gZ) (I' : gI) (J' : gJ), g_run Ms Pg n y pc L S Z I J = some (v, Z', I', J') → Z.1 ≤ Z'.1 ∧ Z.2.1 ≤ Z'.2.1 ∧
    ∀ (p : Program) (l : Launch) (e : Env) (R : Room) (s : State) (m : MethodId) (args : Array Value) (below : List Frame) (meth : Method) (c : Code) (H : Heap) (locs : List Loc) (ls : Array Slot) (N0 T0 : Nat) (Q : State → Prop),
    gX K (Ms y) p R s m args meth c → gH K Z I J H → va_S (gA K) s.heap H locs → gLs K (Ms y).2.2.1 ls L → s.heap.size = K.2.2.1 + N0 → N0 ≤ Z.1 → T0 ≤ Z.2.1 → Z'.1 - N0 ≤ R.cells → Z'.2.1 - T0 ≤ R.slots →
    (∀ (pc' : Nat) (S' : List Value) (H' : Heap) (locs' : List Loc) (ls' : Array Slot), gRt K (Ms y) pc' S' v → gH K Z' I' J' H' → va_S (gA K) s.heap H' locs' → W p l e R s m args below meth c H' locs' (Z'.1 - N0) (Z'.2.1 - T0) Q (F0 m pc' ls' (S'.map (gCv K)))) →
    W p l e R s m args below meth c H locs (Z.1 - N0) (Z.2.1 - T0) Q (F0 m pc ls (S.map (gCv K))) := by
  intro n
  induction n with
  | zero => intro y pc L S Z I J v Z' I' J' h; simp [g_run] at h
  | succ n ih =>
    intro y pc L S Z I J v Z' I' J' h
    rw [g_run] at h
    obtain ⟨o1, o2, o3⟩ := hOk y pc L S Z I J
    split at h
    · cases h
    · rename_i p1 L1 S1 Z1 I1 J1 e1
      obtain ⟨a1, a2, a3⟩ := ih _ _ _ _ _ _ _ _ _ _ _ h
      obtain ⟨b1, b2, b3⟩ := o1 _ _ _ _ _ _ e1
      refine ⟨by omega, by omega, fun p l e R s m args below meth c H locs ls N0 T0 Q hX hH hS hL hs hN hT hc hsl kk => ?_⟩
      exact b3 p l e R s m args below meth c H locs ls N0 T0 Q hX hH hS hL hs hN hT (by omega) (by omega) (fun H' locs' ls' hH' hS' hL' => a3 p l e R s m args below meth c H' locs' ls' N0 T0 Q hX hH' hS' hL' hs (by omega) (by omega) hc hsl kk)
    · rename_i v1 e1
      cases h
      refine ⟨Nat.le_refl _, Nat.le_refl _, fun p l e R s m args below meth c H locs ls N0 T0 Q hX hH hS hL hs hN hT hc hsl kk => ?_⟩
      exact kk pc S H locs ls (o2 v e1) hH hS
    · rename_i z As p1 S1 e1
      split at h
      · rename_i hl
        split at h
        · cases h
        · rename_i v1 Z1 I1 J1 e2
          obtain ⟨a1, a2, a3⟩ := ih _ _ _ _ _ _ _ _ _ _ _ e2
          obtain ⟨b1, b2, b3⟩ := ih _ _ _ _ _ _ _ _ _ _ _ h
          refine ⟨by omega, by omega, fun p l e R s m args below meth c H locs ls N0 T0 Q hX hH hS hL hs hN hT hc hsl kk => ?_⟩
          refine o3 z As p1 S1 e1 v1 Z1 I1 J1 p l e R s m args below meth c H locs ls N0 T0 Q ?_ a1 a2 hX hH hS hL hs hN hT (by omega) (by omega) (fun H' locs' hH' hS' => b3 p l e R s m args below meth c H' locs' ls N0 T0 Q hX hH' hS' hL hs (by omega) (by omega) hc hsl kk)
          refine Met.ofW (cc := (Ms z).2.1) (maxL := (Ms z).2.2.1) (ret := (Ms z).2.2.2.1) (hpl z) rfl ?_
          intro p e s m args below meth c s₁ B hml hv
          obtain ⟨rfl, hH2, hK2, hSp2⟩ := hv
          have hX2 : gX K (Ms z) p (headSpec (gWs (Ms z)) { frames := (Ms z).2.2.2.2.1, cells := Z1.1 - Z.1, slots := Z1.2.1 - Z.2.1, locals := (Ms z).2.2.2.2.2 }).room s m (As.map (gCv K)).toArray meth c :=
            ⟨B.exec, B.bytes, hml, findClass_of_methodNamed B.named, fun w hw => atoms_spec (ws := gWs (Ms z)) B.pre w (List.mem_cons_of_mem _ hw), B.returns, B.notSynchronized, fun hi => (name_of_methodNamed B.named B.method).1.trans hi, hK2, hSp2, Nat.le_refl _, Nat.le_refl _⟩
          rw [lg_entry_eq]
          have := a3 p l e _ s m _ below meth c s.heap [] _ Z.1 Z.2.1 (MQ below (gPost K v1 Z1 I1 J1) (As.map (gCv K)).toArray s (Z1.1 - Z.1) (Z1.2.1 - Z.2.1) (gA K)) hX2 hH2 va_S.rf (g_ent hX2.fv hl) hH2.1 (Nat.le_refl _) (Nat.le_refl _) (Nat.le_refl _) (Nat.le_refl _) (fun pc' S' H' locs' ls' hr' hH' hS' => g_ret hX2 hr' hH' hS')
          rw [Nat.sub_self, Nat.sub_self] at this
          exact this
      · cases h
end GR
