/-! THE CLAIM OUT OF ONE WALK OF THE LAW'S BODY. Your part is whole_start (and what it stands on); all else here is the same for every law, but numbers. -/
def R_law : String := "HundredGongsLaw"
def lw_P (b : Addr) (xs : List Int32) (args : Array Value) (s : State) : Prop := args = #[.ref b] ∧ s.IntsAt b xs ∧ xs.length ≤ 320 ∧ (Jvm.Cond.and given_1 narrow_1).before args s = true
def lw_Q (_ : Array Value) (s : State) (o : Outcome) (t : State) : Prop := o = .returned (some (.int 1)) ∧ Framed s o t [] 600000 7302250
def lw_Z (below : List Frame) (a : Array Value) (s : State) : State → Prop := fun t => ∃ o, t.status = .running ∧ Ended t below o ∧ lw_Q a s o t
/-- the law's own end, with 1 on the stack, nothing written that was there before, its room as the claim has it -/
theorem lw_ret {p : Program} {l : Launch} {e : Env} {s : State} {m : MethodId} {below : List Frame} {meth : Method} {c : Code} {b : Nat} (hx : p.tables.exec = Jvm.exec) (hb : c.code = code) (hr : meth.sig.returnType = ret) (hlocks : meth.locks = false) {pc : Nat} {H : Heap} {ls : Array Slot} (hdg : decode code pc = .ok (.ireturn, 1)) : W p l e room_1 s m #[Value.ref b] below meth c H [] 600000 7302250 (lw_Z below #[Value.ref b] s) (F0 m pc ls [.int 1]) := by
  intro T hT X
  obtain ⟨fs, hret, hrun, hended, hW, hframe⟩ := X.leave (v := some (.int 1)) (hlocks := hlocks) (fun h => by rw [hr] at h; cases h)
  have hmeth' : T.vm.method? m = some meth := X.method'
  refine ⟨T.setFrames fs, ?_, .returned (some (.int 1)), hrun, hended, rfl, ⟨_, rfl⟩, hW, hframe⟩
  jvm_step X.here [X.here.top, hx, hb, hdg, hmeth', hr, ret, narrow_b1]
  (try refine ⟨rfl, ?_⟩); (try refine ⟨rfl, ?_⟩)
  first | (intro acts; rw [hret _ acts rfl rfl rfl]) | rw [hret _ _ rfl rfl rfl]
  exact Steps.refl _
/-- what holds at the law's entry: the machine, the code, the tables' words (any of lw_tbl by 'hts w (by decide +kernel)'), the script of L ints xs at the cell b, what the Statement gives of the start (any of its parts by flat_of_before) -/
def lw_At (p : Program) (s : State) (m : MethodId) (meth : Method) (c : Code) (b L : Nat) (xs : Nat → Int32) : Prop :=
  p.tables.exec = Jvm.exec ∧ c.code = code ∧ meth.sig.returnType = ret ∧ c.maxLocals = 4 ∧ s.vm.findClass R_law = some m.cls ∧ (∀ w ∈ lw_tbl, w.before #[Value.ref b] s = true) ∧ va_X b L xs s s.heap ∧ b < s.heap.size ∧ meth.locks = false ∧ (Jvm.Cond.and given_1 narrow_1).before #[Value.ref b] s = true

/-! ALL METHODS are sound; the law's walk out of the abstract machine's answer -/
theorem g_look_ok {K : gC} {Ms : Nat → gM} {M : gM} : ∀ {t : List (Nat × gAc)}, (∀ e ∈ t, gOk K Ms M e.1 e.2) → ∀ pc, gOk K Ms M pc (g_look t pc)
  | [], _, pc => gs_none
  | (k, a) :: r, h, pc => by
    rw [g_look]
    split
    · rename_i e
      rw [Nat.eq_of_beq_eq_true e]
      exact h (k, a) List.mem_cons_self
    · exact g_look_ok (fun e he => h e (List.mem_cons_of_mem _ he)) pc
theorem g_allok {K : gC} : ∀ y pc, gOk K g_Ms (g_Ms y) pc (g_Pg y pc) := by
  intro y pc
  by_cases hy : y < 143
  · have key : ∀ y, y < 143 → ∀ pc, gOk K g_Ms (g_Ms y) pc (g_look (g_tab y) pc) := by
      intro y hy pc
      match y, hy with
      | 0, _ => exact g_look_ok ok_0 pc
      | 1, _ => exact g_look_ok ok_1 pc
      | 2, _ => exact g_look_ok ok_2 pc
      | 3, _ => exact g_look_ok ok_3 pc
      | 4, _ => exact g_look_ok ok_4 pc
      | 5, _ => exact g_look_ok ok_5 pc
      | 6, _ => exact g_look_ok ok_6 pc
      | 7, _ => exact g_look_ok ok_7 pc
      | 8, _ => exact g_look_ok ok_8 pc
      | 9, _ => exact g_look_ok ok_9 pc
      | 10, _ => exact g_look_ok ok_10 pc
      | 11, _ => exact g_look_ok ok_11 pc
      | 12, _ => exact g_look_ok ok_12 pc
      | 13, _ => exact g_look_ok ok_13 pc
      | 14, _ => exact g_look_ok ok_14 pc
      | 15, _ => exact g_look_ok ok_15 pc
      | 16, _ => exact g_look_ok ok_16 pc
      | 17, _ => exact g_look_ok ok_17 pc
      | 18, _ => exact g_look_ok ok_18 pc
      | 19, _ => exact g_look_ok ok_19 pc
      | 20, _ => exact g_look_ok ok_20 pc
      | 21, _ => exact g_look_ok ok_21 pc
      | 22, _ => exact g_look_ok ok_22 pc
      | 23, _ => exact g_look_ok ok_23 pc
      | 24, _ => exact g_look_ok ok_24 pc
      | 25, _ => exact g_look_ok ok_25 pc
      | 26, _ => exact g_look_ok ok_26 pc
      | 27, _ => exact g_look_ok ok_27 pc
      | 28, _ => exact g_look_ok ok_28 pc
      | 29, _ => exact g_look_ok ok_29 pc
      | 30, _ => exact g_look_ok ok_30 pc
      | 31, _ => exact g_look_ok ok_31 pc
      | 32, _ => exact g_look_ok ok_32 pc
      | 33, _ => exact g_look_ok ok_33 pc
      | 34, _ => exact g_look_ok ok_34 pc
      | 35, _ => exact g_look_ok ok_35 pc
      | 36, _ => exact g_look_ok ok_36 pc
      | 37, _ => exact g_look_ok ok_37 pc
      | 38, _ => exact g_look_ok ok_38 pc
      | 39, _ => exact g_look_ok ok_39 pc
      | 40, _ => exact g_look_ok ok_40 pc
      | 41, _ => exact g_look_ok ok_41 pc
      | 42, _ => exact g_look_ok ok_42 pc
      | 43, _ => exact g_look_ok ok_43 pc
      | 44, _ => exact g_look_ok ok_44 pc
      | 45, _ => exact g_look_ok ok_45 pc
      | 46, _ => exact g_look_ok ok_46 pc
      | 47, _ => exact g_look_ok ok_47 pc
      | 48, _ => exact g_look_ok ok_48 pc
      | 49, _ => exact g_look_ok ok_49 pc
      | 50, _ => exact g_look_ok ok_50 pc
      | 51, _ => exact g_look_ok ok_51 pc
      | 52, _ => exact g_look_ok ok_52 pc
      | 53, _ => exact g_look_ok ok_53 pc
      | 54, _ => exact g_look_ok ok_54 pc
      | 55, _ => exact g_look_ok ok_55 pc
      | 56, _ => exact g_look_ok ok_56 pc
      | 57, _ => exact g_look_ok ok_57 pc
      | 58, _ => exact g_look_ok ok_58 pc
      | 59, _ => exact g_look_ok ok_59 pc
      | 60, _ => exact g_look_ok ok_60 pc
      | 61, _ => exact g_look_ok ok_61 pc
      | 62, _ => exact g_look_ok ok_62 pc
      | 63, _ => exact g_look_ok ok_63 pc
      | 64, _ => exact g_look_ok ok_64 pc
      | 65, _ => exact g_look_ok ok_65 pc
      | 66, _ => exact g_look_ok ok_66 pc
      | 67, _ => exact g_look_ok ok_67 pc
      | 68, _ => exact g_look_ok ok_68 pc
      | 69, _ => exact g_look_ok ok_69 pc
      | 70, _ => exact g_look_ok ok_70 pc
      | 71, _ => exact g_look_ok ok_71 pc
      | 72, _ => exact g_look_ok ok_72 pc
      | 73, _ => exact g_look_ok ok_73 pc
      | 74, _ => exact g_look_ok ok_74 pc
      | 75, _ => exact g_look_ok ok_75 pc
      | 76, _ => exact g_look_ok ok_76 pc
      | 77, _ => exact g_look_ok ok_77 pc
      | 78, _ => exact g_look_ok ok_78 pc
      | 79, _ => exact g_look_ok ok_79 pc
      | 80, _ => exact g_look_ok ok_80 pc
      | 81, _ => exact g_look_ok ok_81 pc
      | 82, _ => exact g_look_ok ok_82 pc
      | 83, _ => exact g_look_ok ok_83 pc
      | 84, _ => exact g_look_ok ok_84 pc
      | 85, _ => exact g_look_ok ok_85 pc
      | 86, _ => exact g_look_ok ok_86 pc
      | 87, _ => exact g_look_ok ok_87 pc
      | 88, _ => exact g_look_ok ok_88 pc
      | 89, _ => exact g_look_ok ok_89 pc
      | 90, _ => exact g_look_ok ok_90 pc
      | 91, _ => exact g_look_ok ok_91 pc
      | 92, _ => exact g_look_ok ok_92 pc
      | 93, _ => exact g_look_ok ok_93 pc
      | 94, _ => exact g_look_ok ok_94 pc
      | 95, _ => exact g_look_ok ok_95 pc
      | 96, _ => exact g_look_ok ok_96 pc
      | 97, _ => exact g_look_ok ok_97 pc
      | 98, _ => exact g_look_ok ok_98 pc
      | 99, _ => exact g_look_ok ok_99 pc
      | 100, _ => exact g_look_ok ok_100 pc
      | 101, _ => exact g_look_ok ok_101 pc
      | 102, _ => exact g_look_ok ok_102 pc
      | 103, _ => exact g_look_ok ok_103 pc
      | 104, _ => exact g_look_ok ok_104 pc
      | 105, _ => exact g_look_ok ok_105 pc
      | 106, _ => exact g_look_ok ok_106 pc
      | 107, _ => exact g_look_ok ok_107 pc
      | 108, _ => exact g_look_ok ok_108 pc
      | 109, _ => exact g_look_ok ok_109 pc
      | 110, _ => exact g_look_ok ok_110 pc
      | 111, _ => exact g_look_ok ok_111 pc
      | 112, _ => exact g_look_ok ok_112 pc
      | 113, _ => exact g_look_ok ok_113 pc
      | 114, _ => exact g_look_ok ok_114 pc
      | 115, _ => exact g_look_ok ok_115 pc
      | 116, _ => exact g_look_ok ok_116 pc
      | 117, _ => exact g_look_ok ok_117 pc
      | 118, _ => exact g_look_ok ok_118 pc
      | 119, _ => exact g_look_ok ok_119 pc
      | 120, _ => exact g_look_ok ok_120 pc
      | 121, _ => exact g_look_ok ok_121 pc
      | 122, _ => exact g_look_ok ok_122 pc
      | 123, _ => exact g_look_ok ok_123 pc
      | 124, _ => exact g_look_ok ok_124 pc
      | 125, _ => exact g_look_ok ok_125 pc
      | 126, _ => exact g_look_ok ok_126 pc
      | 127, _ => exact g_look_ok ok_127 pc
      | 128, _ => exact g_look_ok ok_128 pc
      | 129, _ => exact g_look_ok ok_129 pc
      | 130, _ => exact g_look_ok ok_130 pc
      | 131, _ => exact g_look_ok ok_131 pc
      | 132, _ => exact g_look_ok ok_132 pc
      | 133, _ => exact g_look_ok ok_133 pc
      | 134, _ => exact g_look_ok ok_134 pc
      | 135, _ => exact g_look_ok ok_135 pc
      | 136, _ => exact g_look_ok ok_136 pc
      | 137, _ => exact g_look_ok ok_137 pc
      | 138, _ => exact g_look_ok ok_138 pc
      | 139, _ => exact g_look_ok ok_139 pc
      | 140, _ => exact g_look_ok ok_140 pc
      | 141, _ => exact g_look_ok ok_141 pc
      | 142, _ => exact g_look_ok ok_142 pc
      | n + 143, h => omega
    exact key y hy pc
  · have e : g_tab y = [] := by
      unfold g_tab
      rw [List.getD_eq_getElem?_getD, List.getElem?_eq_none (Nat.not_lt.mp hy)]
      rfl
    show gOk K g_Ms (g_Ms y) pc (g_look (g_tab y) pc)
    rw [e]
    exact gs_none
theorem g_plain : ∀ y, plainName (g_Ms y).1.cls = true := by
  intro y
  by_cases hy : y < 143
  · have key : ∀ y, y < 143 → plainName (g_Ms y).1.cls = true := by decide +kernel
    exact key y hy
  · have e : g_Ms y = mi_0 := by
      unfold g_Ms
      rw [List.getD_eq_getElem?_getD, List.getElem?_eq_none (Nat.not_lt.mp hy)]
      rfl
    rw [e]
    decide
def g_txB : List (List Int32) := [[99, 108, 111, 105, 115, 116, 101, 114], [104, 101, 97, 114, 115], [97, 108, 111, 110, 101], [112, 108, 97, 105, 110], [100, 101, 97, 102], [115, 108, 101, 101, 112, 121], [100, 111, 117, 98, 116, 101, 114], [99, 108, 101, 97, 114], [102, 111, 103], [102, 114, 111, 115, 116]]
def g_txL : List Nat := [8, 5, 5, 5, 4, 6, 7, 5, 3, 5]
/-- the old cells: kinds and contents -/
def g_sK (n k : Nat) : Nat × Nat := if k = 1000 then (14, 5) else if k = 1001 then (14, n) else if 1010 ≤ k ∧ k < 1020 then (12, k - 1010) else if 1030 ≤ k ∧ k < 1040 then (13, g_txL.getD (k - 1030) 0) else (99, 0)
def g_sI (xs : Nat → Int32) (k j : Nat) : Int32 := if k = 1000 then ([-1, 0, 0, 1, 1] : List Int32).getD j 0 else if k = 1001 then xs j else (g_txB.getD (k - 1030) []).getD j 0
def gZs (n : Nat) : gZ := (0, 0, fun k => if k < 1000 then (99, 0) else g_sK n k, fun _ _ => none)
def gIs (xs : Nat → Int32) : gI := fun k => if k < 1000 then (fun _ => 0) else g_sI xs k
def gJs : gJ := fun _ _ => 0
/-- what is left to show, in the abstract machine's words -/
def g_Law : Prop := ∀ (n : Nat) (xs : Nat → Int32), n ≤ 320 → ∃ (Z : gZ) (I : gI) (J : gJ), g_at 142 0 [.ref 1001, .null, .null, .null] [] (gZs n) (gIs xs) gJs = some (some (.int 1), Z, I, J) ∧ Z.1 ≤ 600000 ∧ Z.2.1 ≤ 7302250
def g_tm (i : Nat) : Term := .string "HundredGongs$Text" ((gTxt.getD i (0, "")).1)
theorem g_tm_ex : ∀ i, i < 10 → Cond.exactly (g_tm i) "java/lang/String" ∈ flatC (Jvm.Cond.and given_1 narrow_1) := by decide +kernel
theorem g_tm_co : ∀ i, i < 10 → Cond.eq (.field (g_tm i) "java/lang/String" "coder" "B") (.int 0) ∈ flatC (Jvm.Cond.and given_1 narrow_1) := by decide +kernel
theorem g_tm_ar : ∀ i, i < 10 → Cond.arrayOf (.field (g_tm i) "java/lang/String" "value" "[B") .byte ∈ flatC (Jvm.Cond.and given_1 narrow_1) := by decide +kernel
theorem g_tm_le : ∀ i, i < 10 → Cond.eq (.length (.field (g_tm i) "java/lang/String" "value" "[B")) (.int (Int32.ofNat (g_txL.getD i 0))) ∈ flatC (Jvm.Cond.and given_1 narrow_1) := by decide +kernel
theorem g_tm_el : ∀ i, i < 10 → ∀ j, j < g_txL.getD i 0 → Cond.eq (.elem (.field (g_tm i) "java/lang/String" "value" "[B") (.int (Int32.ofNat j))) (.int ((g_txB.getD i []).getD j 0)) ∈ flatC (Jvm.Cond.and given_1 narrow_1) := by decide +kernel
theorem g_tm_ne : ∀ i, i < 10 → ∀ j, j < 10 → i ≠ j → Cond.not (Cond.eq (g_tm i) (g_tm j)) ∈ flatC (Jvm.Cond.and given_1 narrow_1) ∨ Cond.not (Cond.eq (g_tm j) (g_tm i)) ∈ flatC (Jvm.Cond.and given_1 narrow_1) := by decide +kernel
theorem g_tm_len : ∀ i, i < 10 → g_txL.getD i 0 < 2 ^ 31 := by decide +kernel
theorem g_ko_el : ∀ j, j < 5 → Cond.eq (.elem (.static "HundredGongs" "KIND_OVER" "[I") (.int (Int32.ofNat j))) (.int (([-1, 0, 0, 1, 1] : List Int32).getD j 0)) ∈ flatC (Jvm.Cond.and given_1 narrow_1) := by decide +kernel
theorem g_sr : ∀ i, i < 10 → Cond.stringRef "HundredGongs$Text" ((gTxt.getD i (0, "")).1) ((gTxt.getD i (0, "")).2) ∈ lw_tbl := by decide +kernel
theorem va_X_T {b L : Nat} {xs : Nat → Int32} {U : State} {H : Heap} {A : Nat → Prop} (h : va_X b L xs U H) (hA : ¬ A b) : va_T .int b L (fun j => .int (xs j)) A U H := by
  obtain ⟨scr, h1, h2, h3, h4, h5⟩ := h
  exact ⟨scr, h1, h2, h3, by omega, by rw [h4], h5, hA⟩
theorem g_arr {s : State} {args : Array Value} {ty : FieldType} (hp : ∀ C, ty ≠ .object C) (h : (Cond.arrayClass ty).before args s = true) : ∃ cA, ArrOfT s cA ty ∧ va_RA s cA ty := by
  obtain ⟨cA, kA, comp, h1, h2, h3⟩ := Cond.arrayClass_spec h
  refine ⟨cA, fun n z => ⟨fun k h => (by cases h), kA, h2, comp, h3⟩, ?_⟩
  cases ty <;> first | exact h1 | exact absurd rfl (hp _)
theorem g_arrM {s : State} {C : String} (h : va_AO C s) : ∃ cA, ArrOfT s cA (.object C) ∧ va_RA s cA (.object C) := by
  obtain ⟨comp, c, k, h1, h2, h3, h4, h5⟩ := Cond.arrayOver_spec h
  exact ⟨c, fun n z => ⟨fun k h => (by cases h), k, h3, comp, h4⟩, k, comp, h3, h4, h1, h5⟩
set_option maxHeartbeats 4000000 in
theorem whole_start {p : Program} {e : Env} {s : State} {m : MethodId} {below : List Frame} {meth : Method} {c : Code} (hLaw : g_Law) (l : Launch) {b L : Nat} {xs : Nat → Int32} (hL : L ≤ 320) (C0 : lw_At p s m meth c b L xs) : W p l e room_1 s m #[Value.ref b] below meth c s.heap [] 0 0 (lw_Z below #[Value.ref b] s) (entryFrame m ([Value.ref b] : List Value).toArray 4) := by
  obtain ⟨hx, hb, hr, hml, hown, hts, hX, hbl, hlocks, hgv⟩ := C0
  have hfl := flat_of_before _ hgv
  have hA0 : ∀ a : Nat, a < s.heap.size → ¬ (fun q : Nat => s.heap.size ≤ q) a := fun a h => Nat.not_le.mpr h
  have hinst : ∀ (i ci : Nat) (C : String) (T : u_T) (N : Nat) (ty : Nat → FieldType), gCls ci C T N ty → ∃ (cC : ClassId) (iS : Nat → Nat), u_Kn s C T N cC iS := fun i ci C T N ty h => u_known (ws := g_G) (fun w hw => hts w (List.mem_filter.mp hw).1) h.2.1 (hts _ (List.mem_filter.mp h.2.2.2.2.1).1)
  obtain ⟨c0, iS0, hKn0⟩ := hinst 0 _ _ _ _ _ gcls_0
  obtain ⟨c1, iS1, hKn1⟩ := hinst 0 _ _ _ _ _ gcls_1
  obtain ⟨c2, iS2, hKn2⟩ := hinst 0 _ _ _ _ _ gcls_2
  obtain ⟨c3, iS3, hKn3⟩ := hinst 0 _ _ _ _ _ gcls_3
  obtain ⟨c4, iS4, hKn4⟩ := hinst 0 _ _ _ _ _ gcls_4
  obtain ⟨c5, iS5, hKn5⟩ := hinst 0 _ _ _ _ _ gcls_5
  obtain ⟨c6, iS6, hKn6⟩ := hinst 0 _ _ _ _ _ gcls_6
  obtain ⟨c7, iS7, hKn7⟩ := hinst 0 _ _ _ _ _ gcls_7
  obtain ⟨dC, dI, hKc⟩ : ∃ (dC : Nat → ClassId) (dI : Nat → Nat → Nat), ∀ (k : Nat) (q : vw_C), vwCl[k]? = some q → u_Kn s q.1 q.2.1 q.2.2 (dC k) (dI k) := by
    refine ⟨fun k => match k with | 0 => c0 | 1 => c1 | 2 => c2 | 3 => c3 | 4 => c4 | 5 => c5 | 6 => c6 | _ => c7, fun k => match k with | 0 => iS0 | 1 => iS1 | 2 => iS2 | 3 => iS3 | 4 => iS4 | 5 => iS5 | 6 => iS6 | _ => iS7, ?_⟩
    intro k q hq
    match k, hq with
    | 0, hq => cases hq; exact hKn0
    | 1, hq => cases hq; exact hKn1
    | 2, hq => cases hq; exact hKn2
    | 3, hq => cases hq; exact hKn3
    | 4, hq => cases hq; exact hKn4
    | 5, hq => cases hq; exact hKn5
    | 6, hq => cases hq; exact hKn6
    | 7, hq => cases hq; exact hKn7
    | k + 8, hq => simp [vwCl] at hq
  obtain ⟨cI, hI1, hI2⟩ := g_arr (ty := .int) (fun _ h => by cases h) (hts (.arrayClass .int) (by decide +kernel))
  obtain ⟨cZ, hZ1, hZ2⟩ := g_arr (ty := .boolean) (fun _ h => by cases h) (hts (.arrayClass .boolean) (by decide +kernel))
  obtain ⟨cJ, hJ1, hJ2⟩ := g_arr (ty := .long) (fun _ h => by cases h) (hts (.arrayClass .long) (by decide +kernel))
  have hAO : va_AO "HundredGongs$Morning" s := va_AO.of (hts (.arrayOver (.object "HundredGongs$Morning")) (by decide +kernel))
  obtain ⟨cM, hM1, hM2⟩ := g_arrM hAO
  have hNest : va_Nw (.methodLinkNest "HundredGongs$Foretelling" 20 yX5_init "HundredGongs") s := va_Nw.of rfl (hts _ (by decide +kernel))
  obtain ⟨adK, adV, hStr, hStrV⟩ := vk_Sof (args := #[Value.ref b]) (s := s) (N := 10) (tm := g_tm) (len := g_txL) (byt := g_txB) (A := fun q : Nat => s.heap.size ≤ q) g_tm_len (fun i hi => hfl _ (g_tm_ex i hi)) (fun i hi => hfl _ (g_tm_co i hi)) (fun i hi => hfl _ (g_tm_ar i hi)) (fun i hi => hfl _ (g_tm_le i hi)) (fun i hi j hj => hfl _ (g_tm_el i hi j hj)) (fun i j hi hj hij => (g_tm_ne i hi j hj hij).imp (hfl _) (hfl _)) hA0
  obtain ⟨tK, htK, hTK⟩ := va_Tof (args := #[Value.ref b]) (s := s) (tm := .static "HundredGongs" "KIND_OVER" "[I") (ty := .int) (N := 5) (f := fun j => .int (([-1, 0, 0, 1, 1] : List Int32).getD j 0)) (A := fun q : Nat => s.heap.size ≤ q) (by decide) (hfl _ (by decide +kernel)) (va_eqt (hfl (.eq (.length (.static "HundredGongs" "KIND_OVER" "[I")) (.int 5)) (by decide +kernel))) (fun j hj => va_eqt (hfl _ (g_ko_el j hj))) hA0
  have hZK : va_Z "HundredGongs" "KIND_OVER" "[I" (.ref tK) (fun q : Nat => s.heap.size ≤ q) s s.heap := va_Zof (hts (.laysStatic "HundredGongs" "KIND_OVER" "[I") (by decide +kernel)) (hts (.initialized "HundredGongs") (by decide +kernel)) htK hA0
  have hZC : va_Z "java/lang/String" "COMPACT_STRINGS" "Z" (.int 1) (fun q : Nat => s.heap.size ≤ q) s s.heap := va_Zof (hts (.laysStatic "java/lang/String" "COMPACT_STRINGS" "Z") (by decide +kernel)) (hts (.initialized "java/lang/String") (by decide +kernel)) (va_eqi (hfl _ (by decide +kernel))) hA0
  obtain ⟨fv, hfv, hZF⟩ : ∃ fv : Value, (fv = .null ∨ ∃ t, fv = .ref t) ∧ va_Z "jdk/internal/util/Preconditions" "SIOOBE_FORMATTER" "Ljava/util/function/BiFunction;" fv (fun q : Nat => s.heap.size ≤ q) s s.heap := by
    rcases va_Zqof (A := fun q : Nat => s.heap.size ≤ q) (hts (.laysStatic "jdk/internal/util/Preconditions" "SIOOBE_FORMATTER" "Ljava/util/function/BiFunction;") (by decide +kernel)) (hts (.initialized "jdk/internal/util/Preconditions") (by decide +kernel)) (hfl _ (by decide +kernel)) hA0 with h | ⟨t, h⟩
    · exact ⟨.null, Or.inl rfl, h⟩
    · exact ⟨.ref t, Or.inr ⟨t, rfl⟩, h⟩
  obtain ⟨K, hKe⟩ : ∃ K : gC, K = ((dC, dI), (fun t => if t = 8 then cI else if t = 9 then cZ else if t = 10 then cJ else cM), s.heap.size, (fun k => if k = 1000 then tK else if k = 1001 then b else if k < 1030 then adK (k - 1010) else adV (k - 1030)), fv, g_sK L, g_sI xs) := ⟨_, rfl⟩
  have k1 : K.1 = (dC, dI) := by rw [hKe]
  have k2 : K.2.2.1 = s.heap.size := by rw [hKe]
  have k3 : K.2.2.2.2.1 = fv := by rw [hKe]
  have k4 : K.2.2.2.2.2.1 = g_sK L := by rw [hKe]
  have k5 : K.2.2.2.2.2.2 = g_sI xs := by rw [hKe]
  have a0 : gAd K 1000 = tK := by rw [hKe]; rfl
  have a1 : gAd K 1001 = b := by rw [hKe]; rfl
  have a2 : ∀ i, i < 10 → gAd K (1010 + i) = adK i := fun i hi => by
    rw [hKe]; simp only [gAd]
    rw [if_neg (by omega), if_neg (by omega), if_neg (by omega), if_pos (by omega), Nat.add_sub_cancel_left]
  have a3 : ∀ i, i < 10 → gAd K (1030 + i) = adV i := fun i hi => by
    rw [hKe]; simp only [gAd]
    rw [if_neg (by omega), if_neg (by omega), if_neg (by omega), if_neg (by omega), Nat.add_sub_cancel_left]
  have hgA : gA K = fun q : Nat => s.heap.size ≤ q := by unfold gA; rw [k2]
  have hSp : gSp K s s.heap := by
    unfold gSp
    rw [hgA, k4, k5, k3]
    refine ⟨fun k n hk he => ?_, fun k n hk he => ?_, fun k n hk he => ?_, fun i q hq => ?_, by rw [a0]; exact hZK, hZC, hZF, hAO, hNest, hfv⟩
    · unfold g_sK at he
      split at he
      · rename_i e1; subst e1; cases he; rw [a0]; exact hTK
      · split at he
        · rename_i e1; subst e1; cases he; rw [a1]; exact va_X_T hX (hA0 b hbl)
        · split at he
          · cases he
          · split at he <;> cases he
    · unfold g_sK at he
      split at he
      · cases he
      · split at he
        · cases he
        · split at he
          · cases he
          · split at he
            · rename_i e0 e1 e2 e3
              obtain rfl : g_txL.getD (k - 1030) 0 = n := (Prod.mk.inj he).2
              have e4 : k = 1030 + (k - 1030) := by omega
              have h5 := (hStr.1 (k - 1030) (by omega)).2.2.2
              generalize k - 1030 = k' at *
              subst e4
              rw [a3 _ (by omega)]
              have e6 : ∀ j, g_sI xs (1030 + k') j = (g_txB.getD k' []).getD j 0 := fun j => by
                unfold g_sI
                rw [if_neg (by omega), if_neg (by omega), Nat.add_sub_cancel_left]
              simp only [e6]
              exact h5
            · cases he
    · unfold g_sK at he
      split at he
      · cases he
      · split at he
        · cases he
        · split at he
          · rename_i e0 e1 e2
            have h5 := hStr.1 (k - 1010) (by omega)
            have e4 : k = 1010 + (k - 1010) := by omega
            generalize k - 1010 = k' at *
            subst e4
            rw [show 1010 + k' + 20 = 1030 + k' by omega, a3 _ (by omega), a2 _ (by omega)]
            exact ⟨h5.1, h5.2.1, h5.2.2.1⟩
          · split at he <;> cases he
    · have hi : i < 10 := (List.getElem?_eq_some_iff.mp hq).1
      rw [a2 i hi]
      have e1 : gTxt.getD i (0, "") = q := by rw [List.getD_eq_getElem?_getD, hq]; rfl
      have h1 := g_sr i hi
      have h2 := hStrV i hi
      unfold g_tm at h2
      rw [e1] at h1 h2
      exact vk_R.of (A := #[Value.ref b]) (hts _ h1) h2
  have hK : va_K K.1 vwCl (gTy K) s := by
    rw [k1]
    refine ⟨hKc, fun k q hq => ?_⟩
    unfold gTy at hq
    rw [hKe] at hq
    match k, hq with
    | 0, hq => cases hq; exact ⟨hI1, hI2⟩
    | 1, hq => cases hq; exact ⟨hZ1, hZ2⟩
    | 2, hq => cases hq; exact ⟨hJ1, hJ2⟩
    | 3, hq => cases hq; exact ⟨hM1, hM2⟩
    | k + 4, hq => simp at hq
  have hXX : gX K (g_Ms 142) p room_1 s m #[Value.ref b] meth c := ⟨hx, hb, hml, hown, fun w hw => hts w (List.mem_filter.mp hw).1, hr, hlocks, fun h => absurd h (by decide), hK, hSp, by decide, by decide⟩
  have hH : gH K (gZs L) (gIs xs) gJs s.heap := by
    refine ⟨by rw [k2]; rfl, fun k q hq => ?_, Nat.zero_le _, fun k hk => ?_, fun k hk => ?_⟩
    · simp [gW, gZs] at hq
    · exfalso
      have h1 : ((if k < 1000 then (99, 0) else g_sK L k) : Nat × Nat).1 < 12 := hk
      split at h1
      · exact absurd h1 (by decide)
      · unfold g_sK at h1
        split at h1
        · exact absurd h1 (by decide)
        · split at h1
          · exact absurd h1 (show ¬ (14 : Nat) < 12 by decide)
          · split at h1
            · exact absurd h1 (show ¬ (12 : Nat) < 12 by decide)
            · split at h1
              · exact absurd h1 (show ¬ (13 : Nat) < 12 by decide)
              · exact absurd h1 (by decide)
    · refine ⟨?_, ?_⟩
      · rw [k4]; exact if_neg (by omega)
      · rw [k5]; exact if_neg (by omega)
  obtain ⟨Z', I', J', hrun, hz1, hz2⟩ := hLaw L xs hL
  obtain ⟨n, hn⟩ := g_lim_some hrun
  obtain ⟨-, -, hW⟩ := g_mach (K := K) g_allok g_plain n _ _ _ _ _ _ _ _ _ _ _ hn
  rw [lg_entry_eq]
  have hent := g_ent (K := K) hXX.fv (n := 4) (As := [.ref 1001]) rfl
  have e1 : ([Value.ref 1001] : List Value).map (gCv K) = [Value.ref b] := by
    show [Value.ref (gAd K 1001)] = _
    rw [a1]
  rw [e1] at hent
  have := hW p l e room_1 s m #[Value.ref b] below meth c s.heap [] _ 0 0 (lw_Z below #[Value.ref b] s) hXX hH va_S.rf hent (by rw [k2]; rfl) (Nat.le_refl _) (Nat.le_refl _) (by show Z'.1 - 0 ≤ 600000; omega) (by show Z'.2.1 - 0 ≤ 7302250; omega) (fun pc' S' H' locs' ls' hrt hH' hS' => ?_)
  · exact this
  · have hf : ∀ q ∈ locs', s.heap.size ≤ q.base := fun q hq => by have := hS'.2.2 q hq; rw [hgA] at this; exact this
    refine va_forget hf (W.widen (k := 600000) (n := 7302250) (by omega) (by omega) ?_)
    rcases hrt with ⟨hd, x, ty, h1, rfl, h3, h4⟩ | ⟨hd, k, n, h1, -⟩ | ⟨hd, h1, -⟩
    · cases h1
      exact lw_ret hx hb hr hlocks hd
    · cases h1
    · cases h1
