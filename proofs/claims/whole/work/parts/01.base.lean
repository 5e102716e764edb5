-- ===== PART A: goes FIRST, ahead of the names: the tables' words, and 'selects' of the private methods out of them =====
/-- a private method of a class that the tables say can be made, by its rows of tables_1 -/
def lw_okq (q : MethodName × Nat) : Prop := (q.1.cls ≠ "java/lang/invoke/MethodHandle" ∧ q.1.cls ≠ "java/lang/invoke/VarHandle") ∧ Cond.instantiable q.1.cls q.2 ∈ tables_1 ∧ Cond.privateMethod q.1 ∈ tables_1 ∧ Cond.instanceMethod q.1 ∈ tables_1
theorem lw_p0 : lw_okq (⟨"HundredGongs$Text", "readLine", "(LHundredGongs$Cloister;)Z"⟩, 6) := ⟨⟨by decide +kernel, by decide +kernel⟩, List.mem_of_getElem? (i := 26) (by decide +kernel), List.mem_of_getElem? (i := 260) (by decide +kernel), List.mem_of_getElem? (i := 261) (by decide +kernel)⟩
theorem lw_p1 : lw_okq (⟨"HundredGongs$Text", "nextToken", "()V"⟩, 6) := ⟨⟨by decide +kernel, by decide +kernel⟩, List.mem_of_getElem? (i := 26) (by decide +kernel), List.mem_of_getElem? (i := 264) (by decide +kernel), List.mem_of_getElem? (i := 265) (by decide +kernel)⟩
theorem lw_p2 : lw_okq (⟨"HundredGongs$Text", "byteAt", "(I)I"⟩, 6) := ⟨⟨by decide +kernel, by decide +kernel⟩, List.mem_of_getElem? (i := 26) (by decide +kernel), List.mem_of_getElem? (i := 268) (by decide +kernel), List.mem_of_getElem? (i := 269) (by decide +kernel)⟩
theorem lw_p3 : lw_okq (⟨"HundredGongs$Text", "wordHere", "()I"⟩, 6) := ⟨⟨by decide +kernel, by decide +kernel⟩, List.mem_of_getElem? (i := 26) (by decide +kernel), List.mem_of_getElem? (i := 278) (by decide +kernel), List.mem_of_getElem? (i := 279) (by decide +kernel)⟩
theorem lw_p4 : lw_okq (⟨"HundredGongs$Text", "tokenIs", "(Ljava/lang/String;)Z"⟩, 6) := ⟨⟨by decide +kernel, by decide +kernel⟩, List.mem_of_getElem? (i := 26) (by decide +kernel), List.mem_of_getElem? (i := 295) (by decide +kernel), List.mem_of_getElem? (i := 296) (by decide +kernel)⟩
theorem lw_p5 : lw_okq (⟨"HundredGongs$Text", "readMonk", "(LHundredGongs$Cloister;I)Z"⟩, 6) := ⟨⟨by decide +kernel, by decide +kernel⟩, List.mem_of_getElem? (i := 26) (by decide +kernel), List.mem_of_getElem? (i := 347) (by decide +kernel), List.mem_of_getElem? (i := 348) (by decide +kernel)⟩
theorem lw_p6 : lw_okq (⟨"HundredGongs$Text", "nextNumber", "(II)Z"⟩, 6) := ⟨⟨by decide +kernel, by decide +kernel⟩, List.mem_of_getElem? (i := 26) (by decide +kernel), List.mem_of_getElem? (i := 351) (by decide +kernel), List.mem_of_getElem? (i := 352) (by decide +kernel)⟩
theorem lw_p7 : lw_okq (⟨"HundredGongs$Text", "readCloister", "(LHundredGongs$Cloister;)Z"⟩, 6) := ⟨⟨by decide +kernel, by decide +kernel⟩, List.mem_of_getElem? (i := 26) (by decide +kernel), List.mem_of_getElem? (i := 355) (by decide +kernel), List.mem_of_getElem? (i := 356) (by decide +kernel)⟩
theorem lw_p8 : lw_okq (⟨"HundredGongs$Text", "readHears", "(LHundredGongs$Cloister;)Z"⟩, 6) := ⟨⟨by decide +kernel, by decide +kernel⟩, List.mem_of_getElem? (i := 26) (by decide +kernel), List.mem_of_getElem? (i := 360) (by decide +kernel), List.mem_of_getElem? (i := 361) (by decide +kernel)⟩
theorem lw_p9 : lw_okq (⟨"HundredGongs$Text", "readAlone", "(LHundredGongs$Cloister;)Z"⟩, 6) := ⟨⟨by decide +kernel, by decide +kernel⟩, List.mem_of_getElem? (i := 26) (by decide +kernel), List.mem_of_getElem? (i := 364) (by decide +kernel), List.mem_of_getElem? (i := 365) (by decide +kernel)⟩
theorem lw_p10 : lw_okq (⟨"HundredGongs$Morning", "heeds", "(LHundredGongs$Cloister;I)Z"⟩, 5) := ⟨⟨by decide +kernel, by decide +kernel⟩, List.mem_of_getElem? (i := 105) (by decide +kernel), List.mem_of_getElem? (i := 419) (by decide +kernel), List.mem_of_getElem? (i := 420) (by decide +kernel)⟩
theorem lw_p11 : lw_okq (⟨"HundredGongs", "foretold", "()LHundredGongs$Foretelling;"⟩, 8) := ⟨⟨by decide +kernel, by decide +kernel⟩, List.mem_of_getElem? (i := 18) (by decide +kernel), List.mem_of_getElem? (i := 460) (by decide +kernel), List.mem_of_getElem? (i := 461) (by decide +kernel)⟩
theorem lw_p12 : lw_okq (⟨"HundredGongs$Foretelling", "forgetBest", "()V"⟩, 8) := ⟨⟨by decide +kernel, by decide +kernel⟩, List.mem_of_getElem? (i := 151) (by decide +kernel), List.mem_of_getElem? (i := 538) (by decide +kernel), List.mem_of_getElem? (i := 539) (by decide +kernel)⟩
theorem lw_p13 : lw_okq (⟨"HundredGongs$Foretelling", "setBest", "(III)V"⟩, 8) := ⟨⟨by decide +kernel, by decide +kernel⟩, List.mem_of_getElem? (i := 151) (by decide +kernel), List.mem_of_getElem? (i := 542) (by decide +kernel), List.mem_of_getElem? (i := 543) (by decide +kernel)⟩
theorem lw_p14 : lw_okq (⟨"HundredGongsModel", "plain", "(I)V"⟩, 30) := ⟨⟨by decide +kernel, by decide +kernel⟩, List.mem_of_getElem? (i := 611) (by decide +kernel), List.mem_of_getElem? (i := 617) (by decide +kernel), List.mem_of_getElem? (i := 618) (by decide +kernel)⟩
theorem lw_p15 : lw_okq (⟨"HundredGongsModel", "isRead", "()Z"⟩, 30) := ⟨⟨by decide +kernel, by decide +kernel⟩, List.mem_of_getElem? (i := 611) (by decide +kernel), List.mem_of_getElem? (i := 728) (by decide +kernel), List.mem_of_getElem? (i := 729) (by decide +kernel)⟩
def lw_privs_1 : List (MethodName × Nat) := [(⟨"HundredGongs$Text", "readLine", "(LHundredGongs$Cloister;)Z"⟩, 6), (⟨"HundredGongs$Text", "nextToken", "()V"⟩, 6), (⟨"HundredGongs$Text", "byteAt", "(I)I"⟩, 6), (⟨"HundredGongs$Text", "wordHere", "()I"⟩, 6), (⟨"HundredGongs$Text", "tokenIs", "(Ljava/lang/String;)Z"⟩, 6), (⟨"HundredGongs$Text", "readMonk", "(LHundredGongs$Cloister;I)Z"⟩, 6), (⟨"HundredGongs$Text", "nextNumber", "(II)Z"⟩, 6), (⟨"HundredGongs$Text", "readCloister", "(LHundredGongs$Cloister;)Z"⟩, 6), (⟨"HundredGongs$Text", "readHears", "(LHundredGongs$Cloister;)Z"⟩, 6), (⟨"HundredGongs$Text", "readAlone", "(LHundredGongs$Cloister;)Z"⟩, 6), (⟨"HundredGongs$Morning", "heeds", "(LHundredGongs$Cloister;I)Z"⟩, 5), (⟨"HundredGongs", "foretold", "()LHundredGongs$Foretelling;"⟩, 8), (⟨"HundredGongs$Foretelling", "forgetBest", "()V"⟩, 8), (⟨"HundredGongs$Foretelling", "setBest", "(III)V"⟩, 8), (⟨"HundredGongsModel", "plain", "(I)V"⟩, 30), (⟨"HundredGongsModel", "isRead", "()Z"⟩, 30)]
theorem lw_r1 : ∀ q ∈ lw_privs_1, lw_okq q := List.forall_mem_cons.mpr ⟨lw_p0, List.forall_mem_cons.mpr ⟨lw_p1, List.forall_mem_cons.mpr ⟨lw_p2, List.forall_mem_cons.mpr ⟨lw_p3, List.forall_mem_cons.mpr ⟨lw_p4, List.forall_mem_cons.mpr ⟨lw_p5, List.forall_mem_cons.mpr ⟨lw_p6, List.forall_mem_cons.mpr ⟨lw_p7, List.forall_mem_cons.mpr ⟨lw_p8, List.forall_mem_cons.mpr ⟨lw_p9, List.forall_mem_cons.mpr ⟨lw_p10, List.forall_mem_cons.mpr ⟨lw_p11, List.forall_mem_cons.mpr ⟨lw_p12, List.forall_mem_cons.mpr ⟨lw_p13, List.forall_mem_cons.mpr ⟨lw_p14, List.forall_mem_cons.mpr ⟨lw_p15, fun _ h => absurd h List.not_mem_nil⟩⟩⟩⟩⟩⟩⟩⟩⟩⟩⟩⟩⟩⟩⟩⟩
theorem lw_p16 : lw_okq (⟨"HundredGongsModel", "isLine", "(I)Z"⟩, 30) := ⟨⟨by decide +kernel, by decide +kernel⟩, List.mem_of_getElem? (i := 611) (by decide +kernel), List.mem_of_getElem? (i := 732) (by decide +kernel), List.mem_of_getElem? (i := 733) (by decide +kernel)⟩
theorem lw_p17 : lw_okq (⟨"HundredGongsModel", "nextToken", "()V"⟩, 30) := ⟨⟨by decide +kernel, by decide +kernel⟩, List.mem_of_getElem? (i := 611) (by decide +kernel), List.mem_of_getElem? (i := 736) (by decide +kernel), List.mem_of_getElem? (i := 737) (by decide +kernel)⟩
theorem lw_p18 : lw_okq (⟨"HundredGongsModel", "isThere", "(I)Z"⟩, 30) := ⟨⟨by decide +kernel, by decide +kernel⟩, List.mem_of_getElem? (i := 611) (by decide +kernel), List.mem_of_getElem? (i := 756) (by decide +kernel), List.mem_of_getElem? (i := 757) (by decide +kernel)⟩
theorem lw_p19 : lw_okq (⟨"HundredGongsModel", "isNumber", "(III)Z"⟩, 30) := ⟨⟨by decide +kernel, by decide +kernel⟩, List.mem_of_getElem? (i := 611) (by decide +kernel), List.mem_of_getElem? (i := 760) (by decide +kernel), List.mem_of_getElem? (i := 761) (by decide +kernel)⟩
theorem lw_p20 : lw_okq (⟨"HundredGongsModel", "fails", "()Z"⟩, 30) := ⟨⟨by decide +kernel, by decide +kernel⟩, List.mem_of_getElem? (i := 611) (by decide +kernel), List.mem_of_getElem? (i := 764) (by decide +kernel), List.mem_of_getElem? (i := 765) (by decide +kernel)⟩
theorem lw_p21 : lw_okq (⟨"HundredGongsModel", "isHearing", "(I)Z"⟩, 30) := ⟨⟨by decide +kernel, by decide +kernel⟩, List.mem_of_getElem? (i := 611) (by decide +kernel), List.mem_of_getElem? (i := 768) (by decide +kernel), List.mem_of_getElem? (i := 769) (by decide +kernel)⟩
theorem lw_p22 : lw_okq (⟨"HundredGongsModel", "doLine", "(I)V"⟩, 30) := ⟨⟨by decide +kernel, by decide +kernel⟩, List.mem_of_getElem? (i := 611) (by decide +kernel), List.mem_of_getElem? (i := 776) (by decide +kernel), List.mem_of_getElem? (i := 777) (by decide +kernel)⟩
theorem lw_p23 : lw_okq (⟨"HundredGongsModel", "isGong", "(I)Z"⟩, 30) := ⟨⟨by decide +kernel, by decide +kernel⟩, List.mem_of_getElem? (i := 611) (by decide +kernel), List.mem_of_getElem? (i := 784) (by decide +kernel), List.mem_of_getElem? (i := 785) (by decide +kernel)⟩
theorem lw_p24 : lw_okq (⟨"HundredGongsModel", "canHear", "(I)Z"⟩, 30) := ⟨⟨by decide +kernel, by decide +kernel⟩, List.mem_of_getElem? (i := 611) (by decide +kernel), List.mem_of_getElem? (i := 788) (by decide +kernel), List.mem_of_getElem? (i := 789) (by decide +kernel)⟩
theorem lw_p25 : lw_okq (⟨"HundredGongsModel", "lateOf", "(I)I"⟩, 30) := ⟨⟨by decide +kernel, by decide +kernel⟩, List.mem_of_getElem? (i := 611) (by decide +kernel), List.mem_of_getElem? (i := 796) (by decide +kernel), List.mem_of_getElem? (i := 797) (by decide +kernel)⟩
theorem lw_p26 : lw_okq (⟨"HundredGongsModel", "sound", "(I)I"⟩, 30) := ⟨⟨by decide +kernel, by decide +kernel⟩, List.mem_of_getElem? (i := 611) (by decide +kernel), List.mem_of_getElem? (i := 808) (by decide +kernel), List.mem_of_getElem? (i := 809) (by decide +kernel)⟩
theorem lw_p27 : lw_okq (⟨"HundredGongsModel", "pass", "()I"⟩, 30) := ⟨⟨by decide +kernel, by decide +kernel⟩, List.mem_of_getElem? (i := 611) (by decide +kernel), List.mem_of_getElem? (i := 820) (by decide +kernel), List.mem_of_getElem? (i := 821) (by decide +kernel)⟩
theorem lw_p28 : lw_okq (⟨"HundredGongsModel", "firstOf", "(II)I"⟩, 30) := ⟨⟨by decide +kernel, by decide +kernel⟩, List.mem_of_getElem? (i := 611) (by decide +kernel), List.mem_of_getElem? (i := 840) (by decide +kernel), List.mem_of_getElem? (i := 841) (by decide +kernel)⟩
theorem lw_p29 : lw_okq (⟨"HundredGongsModel", "wakes", "(I)Z"⟩, 30) := ⟨⟨by decide +kernel, by decide +kernel⟩, List.mem_of_getElem? (i := 611) (by decide +kernel), List.mem_of_getElem? (i := 844) (by decide +kernel), List.mem_of_getElem? (i := 845) (by decide +kernel)⟩
theorem lw_p30 : lw_okq (⟨"HundredGongsModel", "roundOf", "(I)I"⟩, 30) := ⟨⟨by decide +kernel, by decide +kernel⟩, List.mem_of_getElem? (i := 611) (by decide +kernel), List.mem_of_getElem? (i := 848) (by decide +kernel), List.mem_of_getElem? (i := 849) (by decide +kernel)⟩
theorem lw_p31 : lw_okq (⟨"HundredGongsModel", "layFirst", "(I)I"⟩, 30) := ⟨⟨by decide +kernel, by decide +kernel⟩, List.mem_of_getElem? (i := 611) (by decide +kernel), List.mem_of_getElem? (i := 856) (by decide +kernel), List.mem_of_getElem? (i := 857) (by decide +kernel)⟩
def lw_privs_2 : List (MethodName × Nat) := [(⟨"HundredGongsModel", "isLine", "(I)Z"⟩, 30), (⟨"HundredGongsModel", "nextToken", "()V"⟩, 30), (⟨"HundredGongsModel", "isThere", "(I)Z"⟩, 30), (⟨"HundredGongsModel", "isNumber", "(III)Z"⟩, 30), (⟨"HundredGongsModel", "fails", "()Z"⟩, 30), (⟨"HundredGongsModel", "isHearing", "(I)Z"⟩, 30), (⟨"HundredGongsModel", "doLine", "(I)V"⟩, 30), (⟨"HundredGongsModel", "isGong", "(I)Z"⟩, 30), (⟨"HundredGongsModel", "canHear", "(I)Z"⟩, 30), (⟨"HundredGongsModel", "lateOf", "(I)I"⟩, 30), (⟨"HundredGongsModel", "sound", "(I)I"⟩, 30), (⟨"HundredGongsModel", "pass", "()I"⟩, 30), (⟨"HundredGongsModel", "firstOf", "(II)I"⟩, 30), (⟨"HundredGongsModel", "wakes", "(I)Z"⟩, 30), (⟨"HundredGongsModel", "roundOf", "(I)I"⟩, 30), (⟨"HundredGongsModel", "layFirst", "(I)I"⟩, 30)]
theorem lw_r2 : ∀ q ∈ lw_privs_2, lw_okq q := List.forall_mem_cons.mpr ⟨lw_p16, List.forall_mem_cons.mpr ⟨lw_p17, List.forall_mem_cons.mpr ⟨lw_p18, List.forall_mem_cons.mpr ⟨lw_p19, List.forall_mem_cons.mpr ⟨lw_p20, List.forall_mem_cons.mpr ⟨lw_p21, List.forall_mem_cons.mpr ⟨lw_p22, List.forall_mem_cons.mpr ⟨lw_p23, List.forall_mem_cons.mpr ⟨lw_p24, List.forall_mem_cons.mpr ⟨lw_p25, List.forall_mem_cons.mpr ⟨lw_p26, List.forall_mem_cons.mpr ⟨lw_p27, List.forall_mem_cons.mpr ⟨lw_p28, List.forall_mem_cons.mpr ⟨lw_p29, List.forall_mem_cons.mpr ⟨lw_p30, List.forall_mem_cons.mpr ⟨lw_p31, fun _ h => absurd h List.not_mem_nil⟩⟩⟩⟩⟩⟩⟩⟩⟩⟩⟩⟩⟩⟩⟩⟩
theorem lw_p32 : lw_okq (⟨"HundredGongsModel", "apartOf", "(III)I"⟩, 30) := ⟨⟨by decide +kernel, by decide +kernel⟩, List.mem_of_getElem? (i := 611) (by decide +kernel), List.mem_of_getElem? (i := 876) (by decide +kernel), List.mem_of_getElem? (i := 877) (by decide +kernel)⟩
theorem lw_p33 : lw_okq (⟨"HundredGongsModel", "exchange", "(II)V"⟩, 30) := ⟨⟨by decide +kernel, by decide +kernel⟩, List.mem_of_getElem? (i := 611) (by decide +kernel), List.mem_of_getElem? (i := 884) (by decide +kernel), List.mem_of_getElem? (i := 885) (by decide +kernel)⟩
theorem lw_p34 : lw_okq (⟨"HundredGongsModel", "without", "(II)I"⟩, 30) := ⟨⟨by decide +kernel, by decide +kernel⟩, List.mem_of_getElem? (i := 611) (by decide +kernel), List.mem_of_getElem? (i := 895) (by decide +kernel), List.mem_of_getElem? (i := 896) (by decide +kernel)⟩
theorem lw_p35 : lw_okq (⟨"HundredGongsModel", "isSo", "(I)Z"⟩, 30) := ⟨⟨by decide +kernel, by decide +kernel⟩, List.mem_of_getElem? (i := 611) (by decide +kernel), List.mem_of_getElem? (i := 915) (by decide +kernel), List.mem_of_getElem? (i := 916) (by decide +kernel)⟩
def lw_privs_3 : List (MethodName × Nat) := [(⟨"HundredGongsModel", "apartOf", "(III)I"⟩, 30), (⟨"HundredGongsModel", "exchange", "(II)V"⟩, 30), (⟨"HundredGongsModel", "without", "(II)I"⟩, 30), (⟨"HundredGongsModel", "isSo", "(I)Z"⟩, 30)]
theorem lw_r3 : ∀ q ∈ lw_privs_3, lw_okq q := List.forall_mem_cons.mpr ⟨lw_p32, List.forall_mem_cons.mpr ⟨lw_p33, List.forall_mem_cons.mpr ⟨lw_p34, List.forall_mem_cons.mpr ⟨lw_p35, fun _ h => absurd h List.not_mem_nil⟩⟩⟩⟩
def lw_privs : List (MethodName × Nat) := lw_privs_1 ++ (lw_privs_2 ++ (lw_privs_3))
def lw_tbl : List Cond := k2_sels lw_privs ++ tables_1
theorem lw_privs_ok : ∀ q ∈ lw_privs, lw_okq q := by
  show ∀ q ∈ lw_privs_1 ++ (lw_privs_2 ++ (lw_privs_3)), lw_okq q
  exact List.forall_mem_append.mpr ⟨lw_r1, List.forall_mem_append.mpr ⟨lw_r2, lw_r3⟩⟩
def RX0 : String := "HundredGongs$Cloister"
def TX0 : u_T := fun k => match k with
  | 0 => ("HundredGongs$Cloister", "hears", "[I", true)
  | 1 => ("HundredGongs$Cloister", "span", "[I", true)
  | 2 => ("HundredGongs$Cloister", "kind", "[I", true)
  | 3 => ("HundredGongs$Cloister", "delay", "[I", true)
  | 4 => ("HundredGongs$Cloister", "gongs", "I", false)
  | _ => ("HundredGongs$Cloister", "toldWeather", "I", false)
def tyX0 : Nat → FieldType := fun k => match k with
  | 0 => .array .int
  | 1 => .array .int
  | 2 => .array .int
  | 3 => .array .int
  | 4 => .int
  | _ => .int
abbrev wsX00 : List Cond := u_ws RX0 TX0 6
theorem nmX0 : ∀ a, a < 6 → ∀ b, b < 6 → a ≠ b → (TX0 a).2.1 ≠ (TX0 b).2.1 := by decide +kernel
theorem tyX0_ok : ∀ k, k < 6 → parseFieldDescriptor (TX0 k).2.2.1 = some (tyX0 k) := by decide +kernel
abbrev cX0_init : ByteArray := prog_2_method_1_code
def yX0_init : MethodName := ⟨RX0, "<init>", "()V"⟩
abbrev cX0_found : ByteArray := prog_2_method_2_code
def yX0_found : MethodName := ⟨RX0, "found", "(I)V"⟩
abbrev cX0_copyFrom : ByteArray := prog_2_method_3_code
def yX0_copyFrom : MethodName := ⟨RX0, "copyFrom", "(LHundredGongs$Cloister;)V"⟩
abbrev cX0_has : ByteArray := prog_2_method_4_code
def yX0_has : MethodName := ⟨RX0, "has", "(I)Z"⟩
abbrev cX0_canHear : ByteArray := prog_2_method_5_code
def yX0_canHear : MethodName := ⟨RX0, "canHear", "(II)Z"⟩
abbrev cX0_late : ByteArray := prog_2_method_6_code
def yX0_late : MethodName := ⟨RX0, "late", "(II)I"⟩
abbrev cX0_swapMonks : ByteArray := prog_2_method_7_code
def yX0_swapMonks : MethodName := ⟨RX0, "swapMonks", "(II)V"⟩
abbrev cX0_hearOver : ByteArray := prog_2_method_8_code
def yX0_hearOver : MethodName := ⟨RX0, "hearOver", "(I)V"⟩
def RX1 : String := "HundredGongs$Foretelling"
def TX1 : u_T := fun k => match k with
  | 0 => ("HundredGongs$Foretelling", "house", "LHundredGongs$Cloister;", true)
  | 1 => ("HundredGongs$Foretelling", "way", "LHundredGongs$Way;", true)
  | 2 => ("HundredGongs$Foretelling", "ring", "LHundredGongs$Way;", true)
  | 3 => ("HundredGongs$Foretelling", "weather", "I", false)
  | 4 => ("HundredGongs$Foretelling", "sleeper", "I", false)
  | 5 => ("HundredGongs$Foretelling", "bestValue", "I", false)
  | 6 => ("HundredGongs$Foretelling", "bestGong", "I", false)
  | _ => ("HundredGongs$Foretelling", "bestOther", "I", false)
def tyX1 : Nat → FieldType := fun k => match k with
  | 0 => .object "HundredGongs$Cloister"
  | 1 => .object "HundredGongs$Way"
  | 2 => .object "HundredGongs$Way"
  | 3 => .int
  | 4 => .int
  | 5 => .int
  | 6 => .int
  | _ => .int
abbrev wsX10 : List Cond := u_ws RX1 TX1 8
theorem nmX1 : ∀ a, a < 8 → ∀ b, b < 8 → a ≠ b → (TX1 a).2.1 ≠ (TX1 b).2.1 := by decide +kernel
theorem tyX1_ok : ∀ k, k < 8 → parseFieldDescriptor (TX1 k).2.2.1 = some (tyX1 k) := by decide +kernel
abbrev cX1_init : ByteArray := prog_3_method_1_code
def yX1_init : MethodName := ⟨RX1, "<init>", "()V"⟩
abbrev cX1_suppose : ByteArray := prog_3_method_2_code
def yX1_suppose : MethodName := ⟨RX1, "suppose", "(LHundredGongs$Cloister;I)V"⟩
abbrev cX1_minutesTo : ByteArray := prog_3_method_3_code
def yX1_minutesTo : MethodName := ⟨RX1, "minutesTo", "(II)I"⟩
abbrev cX1_roundMinutes : ByteArray := prog_3_method_4_code
def yX1_roundMinutes : MethodName := ⟨RX1, "roundMinutes", "(I)I"⟩
abbrev cX1_strikers : ByteArray := prog_3_method_5_code
def yX1_strikers : MethodName := ⟨RX1, "strikers", "(I)I"⟩
abbrev cX1_lastMinute : ByteArray := prog_3_method_6_code
def yX1_lastMinute : MethodName := ⟨RX1, "lastMinute", "(I)I"⟩
abbrev cX1_strokes : ByteArray := prog_3_method_7_code
def yX1_strokes : MethodName := ⟨RX1, "strokes", "(III)I"⟩
abbrev cX1_strokesInRing : ByteArray := prog_3_method_8_code
def yX1_strokesInRing : MethodName := ⟨RX1, "strokesInRing", "(II)I"⟩
abbrev cX1_minutesBetween : ByteArray := prog_3_method_9_code
def yX1_minutesBetween : MethodName := ⟨RX1, "minutesBetween", "(III)I"⟩
abbrev cX1_monksOnWay : ByteArray := prog_3_method_10_code
def yX1_monksOnWay : MethodName := ⟨RX1, "monksOnWay", "(II)I"⟩
abbrev cX1_seekChange : ByteArray := prog_3_method_11_code
def yX1_seekChange : MethodName := ⟨RX1, "seekChange", "(III)V"⟩
abbrev cX1_seekOver : ByteArray := prog_3_method_12_code
def yX1_seekOver : MethodName := ⟨RX1, "seekOver", "(LHundredGongs$Cloister;I)V"⟩
abbrev cX1_forgetBest : ByteArray := prog_3_method_13_code
def yX1_forgetBest : MethodName := ⟨RX1, "forgetBest", "()V"⟩
abbrev cX1_setBest : ByteArray := prog_3_method_14_code
def yX1_setBest : MethodName := ⟨RX1, "setBest", "(III)V"⟩
def RX2 : String := "HundredGongs$Morning"
def TX2 : u_T := fun k => match k with
  | 0 => ("HundredGongs$Morning", "coming", "[J", true)
  | 1 => ("HundredGongs$Morning", "strikes", "[I", true)
  | 2 => ("HundredGongs$Morning", "heardOdd", "[Z", true)
  | 3 => ("HundredGongs$Morning", "minute", "I", false)
  | _ => ("HundredGongs$Morning", "weather", "I", false)
def tyX2 : Nat → FieldType := fun k => match k with
  | 0 => .array .long
  | 1 => .array .int
  | 2 => .array .boolean
  | 3 => .int
  | _ => .int
abbrev wsX20 : List Cond := u_ws RX2 TX2 5
theorem nmX2 : ∀ a, a < 5 → ∀ b, b < 5 → a ≠ b → (TX2 a).2.1 ≠ (TX2 b).2.1 := by decide +kernel
theorem tyX2_ok : ∀ k, k < 5 → parseFieldDescriptor (TX2 k).2.2.1 = some (tyX2 k) := by decide +kernel
abbrev cX2_init : ByteArray := prog_4_method_1_code
def yX2_init : MethodName := ⟨RX2, "<init>", "()V"⟩
abbrev cX2_begin : ByteArray := prog_4_method_2_code
def yX2_begin : MethodName := ⟨RX2, "begin", "(I)V"⟩
abbrev cX2_copyFrom : ByteArray := prog_4_method_3_code
def yX2_copyFrom : MethodName := ⟨RX2, "copyFrom", "(LHundredGongs$Morning;)V"⟩
abbrev cX2_soundGong : ByteArray := prog_4_method_4_code
def yX2_soundGong : MethodName := ⟨RX2, "soundGong", "(LHundredGongs$Cloister;I)I"⟩
abbrev cX2_heeds : ByteArray := prog_4_method_5_code
def yX2_heeds : MethodName := ⟨RX2, "heeds", "(LHundredGongs$Cloister;I)Z"⟩
abbrev cX2_passMinute : ByteArray := prog_4_method_6_code
def yX2_passMinute : MethodName := ⟨RX2, "passMinute", "(LHundredGongs$Cloister;)I"⟩
abbrev cX2_minutesToNext : ByteArray := prog_4_method_7_code
def yX2_minutesToNext : MethodName := ⟨RX2, "minutesToNext", "(I)I"⟩
abbrev cX2_gongsToCome : ByteArray := prog_4_method_8_code
def yX2_gongsToCome : MethodName := ⟨RX2, "gongsToCome", "()I"⟩
abbrev cX2_strikesInAll : ByteArray := prog_4_method_9_code
def yX2_strikesInAll : MethodName := ⟨RX2, "strikesInAll", "()I"⟩
def RX3 : String := "HundredGongs$Sightings"
def TX3 : u_T := fun k => match k with
  | 0 => ("HundredGongs$Sightings", "gong", "[I", true)
  | 1 => ("HundredGongs$Sightings", "struck", "[Z", true)
  | _ => ("HundredGongs$Sightings", "size", "I", false)
def tyX3 : Nat → FieldType := fun k => match k with
  | 0 => .array .int
  | 1 => .array .boolean
  | _ => .int
abbrev wsX30 : List Cond := u_ws RX3 TX3 3
theorem nmX3 : ∀ a, a < 3 → ∀ b, b < 3 → a ≠ b → (TX3 a).2.1 ≠ (TX3 b).2.1 := by decide +kernel
theorem tyX3_ok : ∀ k, k < 3 → parseFieldDescriptor (TX3 k).2.2.1 = some (tyX3 k) := by decide +kernel
abbrev cX3_init : ByteArray := prog_5_method_1_code
def yX3_init : MethodName := ⟨RX3, "<init>", "()V"⟩
abbrev cX3_note : ByteArray := prog_5_method_2_code
def yX3_note : MethodName := ⟨RX3, "note", "(IZ)Z"⟩
abbrev cX3_agreeWith : ByteArray := prog_5_method_3_code
def yX3_agreeWith : MethodName := ⟨RX3, "agreeWith", "(I)Z"⟩
def RX4 : String := "HundredGongs$Text"
def TX4 : u_T := fun k => match k with
  | 0 => ("HundredGongs$Text", "bytes", "[I", true)
  | 1 => ("HundredGongs$Text", "length", "I", false)
  | 2 => ("HundredGongs$Text", "lines", "I", false)
  | 3 => ("HundredGongs$Text", "start", "I", false)
  | 4 => ("HundredGongs$Text", "end", "I", false)
  | _ => ("HundredGongs$Text", "number", "I", false)
def tyX4 : Nat → FieldType := fun k => match k with
  | 0 => .array .int
  | 1 => .int
  | 2 => .int
  | 3 => .int
  | 4 => .int
  | _ => .int
abbrev wsX40 : List Cond := u_ws RX4 TX4 6
theorem nmX4 : ∀ a, a < 6 → ∀ b, b < 6 → a ≠ b → (TX4 a).2.1 ≠ (TX4 b).2.1 := by decide +kernel
theorem tyX4_ok : ∀ k, k < 6 → parseFieldDescriptor (TX4 k).2.2.1 = some (tyX4 k) := by decide +kernel
abbrev cX4_init : ByteArray := prog_6_method_1_code
def yX4_init : MethodName := ⟨RX4, "<init>", "()V"⟩
abbrev cX4_append : ByteArray := prog_6_method_2_code
def yX4_append : MethodName := ⟨RX4, "append", "(I)V"⟩
abbrev cX4_readOnto : ByteArray := prog_6_method_3_code
def yX4_readOnto : MethodName := ⟨RX4, "readOnto", "(LHundredGongs$Cloister;)I"⟩
abbrev cX4_readLine : ByteArray := prog_6_method_4_code
def yX4_readLine : MethodName := ⟨RX4, "readLine", "(LHundredGongs$Cloister;)Z"⟩
abbrev cX4_readCloister : ByteArray := prog_6_method_5_code
def yX4_readCloister : MethodName := ⟨RX4, "readCloister", "(LHundredGongs$Cloister;)Z"⟩
abbrev cX4_readHears : ByteArray := prog_6_method_6_code
def yX4_readHears : MethodName := ⟨RX4, "readHears", "(LHundredGongs$Cloister;)Z"⟩
abbrev cX4_readAlone : ByteArray := prog_6_method_7_code
def yX4_readAlone : MethodName := ⟨RX4, "readAlone", "(LHundredGongs$Cloister;)Z"⟩
abbrev cX4_readMonk : ByteArray := prog_6_method_8_code
def yX4_readMonk : MethodName := ⟨RX4, "readMonk", "(LHundredGongs$Cloister;I)Z"⟩
abbrev cX4_nextToken : ByteArray := prog_6_method_9_code
def yX4_nextToken : MethodName := ⟨RX4, "nextToken", "()V"⟩
abbrev cX4_nextNumber : ByteArray := prog_6_method_10_code
def yX4_nextNumber : MethodName := ⟨RX4, "nextNumber", "(II)Z"⟩
abbrev cX4_wordHere : ByteArray := prog_6_method_11_code
def yX4_wordHere : MethodName := ⟨RX4, "wordHere", "()I"⟩
abbrev cX4_tokenIs : ByteArray := prog_6_method_12_code
def yX4_tokenIs : MethodName := ⟨RX4, "tokenIs", "(Ljava/lang/String;)Z"⟩
abbrev cX4_wordAt : ByteArray := prog_6_method_13_code
def yX4_wordAt : MethodName := ⟨RX4, "wordAt", "(I)Ljava/lang/String;"⟩
abbrev cX4_isLetter : ByteArray := prog_6_method_14_code
def yX4_isLetter : MethodName := ⟨RX4, "isLetter", "(I)Z"⟩
abbrev cX4_isDigit : ByteArray := prog_6_method_15_code
def yX4_isDigit : MethodName := ⟨RX4, "isDigit", "(I)Z"⟩
abbrev cX4_byteAt : ByteArray := prog_6_method_16_code
def yX4_byteAt : MethodName := ⟨RX4, "byteAt", "(I)I"⟩
def RX5 : String := "HundredGongs$Way"
def TX5 : u_T := fun k => match k with
  | 0 => ("HundredGongs$Way", "minutes", "I", false)
  | 1 => ("HundredGongs$Way", "doubters", "I", false)
  | _ => ("HundredGongs$Way", "monks", "I", false)
def tyX5 : Nat → FieldType := fun k => match k with
  | 0 => .int
  | 1 => .int
  | _ => .int
abbrev wsX50 : List Cond := u_ws RX5 TX5 3
theorem nmX5 : ∀ a, a < 3 → ∀ b, b < 3 → a ≠ b → (TX5 a).2.1 ≠ (TX5 b).2.1 := by decide +kernel
theorem tyX5_ok : ∀ k, k < 3 → parseFieldDescriptor (TX5 k).2.2.1 = some (tyX5 k) := by decide +kernel
abbrev cX5_init : ByteArray := prog_7_method_1_code
def yX5_init : MethodName := ⟨RX5, "<init>", "()V"⟩
abbrev cX5_trace : ByteArray := prog_7_method_2_code
def yX5_trace : MethodName := ⟨RX5, "trace", "(LHundredGongs$Cloister;IIII)Z"⟩
def RX6 : String := "HundredGongs"
def TX6 : u_T := fun k => match k with
  | 0 => ("HundredGongs", "text", "LHundredGongs$Text;", true)
  | 1 => ("HundredGongs", "house", "LHundredGongs$Cloister;", true)
  | 2 => ("HundredGongs", "draft", "LHundredGongs$Cloister;", true)
  | 3 => ("HundredGongs", "morning", "LHundredGongs$Morning;", true)
  | 4 => ("HundredGongs", "kept", "[LHundredGongs$Morning;", true)
  | 5 => ("HundredGongs", "isKept", "[Z", true)
  | 6 => ("HundredGongs", "sightings", "LHundredGongs$Sightings;", true)
  | _ => ("HundredGongs", "foretelling", "LHundredGongs$Foretelling;", true)
def tyX6 : Nat → FieldType := fun k => match k with
  | 0 => .object "HundredGongs$Text"
  | 1 => .object "HundredGongs$Cloister"
  | 2 => .object "HundredGongs$Cloister"
  | 3 => .object "HundredGongs$Morning"
  | 4 => .array (.object "HundredGongs$Morning")
  | 5 => .array .boolean
  | 6 => .object "HundredGongs$Sightings"
  | _ => .object "HundredGongs$Foretelling"
abbrev wsX60 : List Cond := u_ws RX6 TX6 8
theorem nmX6 : ∀ a, a < 8 → ∀ b, b < 8 → a ≠ b → (TX6 a).2.1 ≠ (TX6 b).2.1 := by decide +kernel
theorem tyX6_ok : ∀ k, k < 8 → parseFieldDescriptor (TX6 k).2.2.1 = some (tyX6 k) := by decide +kernel
abbrev cX6_init : ByteArray := prog_1_method_1_code
def yX6_init : MethodName := ⟨RX6, "<init>", "()V"⟩
abbrev cX6_write : ByteArray := prog_1_method_2_code
def yX6_write : MethodName := ⟨RX6, "write", "(JI)I"⟩
abbrev cX6_erase : ByteArray := prog_1_method_3_code
def yX6_erase : MethodName := ⟨RX6, "erase", "()I"⟩
abbrev cX6_fault : ByteArray := prog_1_method_4_code
def yX6_fault : MethodName := ⟨RX6, "fault", "()I"⟩
abbrev cX6_cloister : ByteArray := prog_1_method_5_code
def yX6_cloister : MethodName := ⟨RX6, "cloister", "()I"⟩
abbrev cX6_gong : ByteArray := prog_1_method_6_code
def yX6_gong : MethodName := ⟨RX6, "gong", "(II)I"⟩
abbrev cX6_monk : ByteArray := prog_1_method_7_code
def yX6_monk : MethodName := ⟨RX6, "monk", "(II)I"⟩
abbrev cX6_as : ByteArray := prog_1_method_8_code
def yX6_as : MethodName := ⟨RX6, "as", "(II)I"⟩
abbrev cX6_isSuch : ByteArray := prog_1_method_9_code
def yX6_isSuch : MethodName := ⟨RX6, "isSuch", "(II)Z"⟩
abbrev cX6_strike : ByteArray := prog_1_method_10_code
def yX6_strike : MethodName := ⟨RX6, "strike", "(I)I"⟩
abbrev cX6_go : ByteArray := prog_1_method_11_code
def yX6_go : MethodName := ⟨RX6, "go", "(I)I"⟩
abbrev cX6_turn : ByteArray := prog_1_method_12_code
def yX6_turn : MethodName := ⟨RX6, "turn", "(I)I"⟩
abbrev cX6_keep : ByteArray := prog_1_method_13_code
def yX6_keep : MethodName := ⟨RX6, "keep", "(I)I"⟩
abbrev cX6_back : ByteArray := prog_1_method_14_code
def yX6_back : MethodName := ⟨RX6, "back", "(I)I"⟩
abbrev cX6_first : ByteArray := prog_1_method_15_code
def yX6_first : MethodName := ⟨RX6, "first", "(II)I"⟩
abbrev cX6_who : ByteArray := prog_1_method_16_code
def yX6_who : MethodName := ⟨RX6, "who", "(I)I"⟩
abbrev cX6_ends : ByteArray := prog_1_method_17_code
def yX6_ends : MethodName := ⟨RX6, "ends", "(I)I"⟩
abbrev cX6_round : ByteArray := prog_1_method_18_code
def yX6_round : MethodName := ⟨RX6, "round", "(I)I"⟩
abbrev cX6_times : ByteArray := prog_1_method_19_code
def yX6_times : MethodName := ⟨RX6, "times", "(III)I"⟩
abbrev cX6_apart : ByteArray := prog_1_method_20_code
def yX6_apart : MethodName := ⟨RX6, "apart", "(III)I"⟩
abbrev cX6_change : ByteArray := prog_1_method_21_code
def yX6_change : MethodName := ⟨RX6, "change", "(IIII)I"⟩
abbrev cX6_over : ByteArray := prog_1_method_22_code
def yX6_over : MethodName := ⟨RX6, "over", "(II)I"⟩
abbrev cX6_odds : ByteArray := prog_1_method_23_code
def yX6_odds : MethodName := ⟨RX6, "odds", "(IIII)I"⟩
abbrev cX6_foretold : ByteArray := prog_1_method_24_code
def yX6_foretold : MethodName := ⟨RX6, "foretold", "()LHundredGongs$Foretelling;"⟩
abbrev cX6_commonDivisor : ByteArray := prog_1_method_25_code
def yX6_commonDivisor : MethodName := ⟨RX6, "commonDivisor", "(II)I"⟩
abbrev cX6_power : ByteArray := prog_1_method_26_code
def yX6_power : MethodName := ⟨RX6, "power", "(II)I"⟩
abbrev cX6_seen : ByteArray := prog_1_method_27_code
def yX6_seen : MethodName := ⟨RX6, "seen", "(II)I"⟩
abbrev cX6_forget : ByteArray := prog_1_method_28_code
def yX6_forget : MethodName := ⟨RX6, "forget", "()I"⟩
abbrev cX6_asleep : ByteArray := prog_1_method_29_code
def yX6_asleep : MethodName := ⟨RX6, "asleep", "(II)I"⟩
abbrev cX6_count : ByteArray := prog_1_method_30_code
def yX6_count : MethodName := ⟨RX6, "count", "(I)I"⟩
def RX7 : String := "HundredGongsModel"
def TX7 : u_T := fun k => match k with
  | 0 => ("HundredGongsModel", "gongs", "I", false)
  | 1 => ("HundredGongsModel", "hears", "[I", true)
  | 2 => ("HundredGongsModel", "span", "[I", true)
  | 3 => ("HundredGongsModel", "kind", "[I", true)
  | 4 => ("HundredGongsModel", "delay", "[I", true)
  | 5 => ("HundredGongsModel", "weather", "I", false)
  | 6 => ("HundredGongsModel", "told", "I", false)
  | 7 => ("HundredGongsModel", "bytes", "I", false)
  | 8 => ("HundredGongsModel", "text", "[I", true)
  | 9 => ("HundredGongsModel", "position", "I", false)
  | 10 => ("HundredGongsModel", "tokenAt", "I", false)
  | 11 => ("HundredGongsModel", "token", "J", false)
  | 12 => ("HundredGongsModel", "digits", "I", false)
  | 13 => ("HundredGongsModel", "number", "I", false)
  | 14 => ("HundredGongsModel", "faultAt", "I", false)
  | 15 => ("HundredGongsModel", "readMany", "I", false)
  | 16 => ("HundredGongsModel", "readGongs", "I", false)
  | 17 => ("HundredGongsModel", "read", "[I", true)
  | 18 => ("HundredGongsModel", "comes", "[J", true)
  | 19 => ("HundredGongsModel", "strikes", "[I", true)
  | 20 => ("HundredGongsModel", "heard", "I", false)
  | 21 => ("HundredGongsModel", "minute", "I", false)
  | 22 => ("HundredGongsModel", "image", "[J", true)
  | 23 => ("HundredGongsModel", "isKept", "[Z", true)
  | 24 => ("HundredGongsModel", "sights", "I", false)
  | 25 => ("HundredGongsModel", "sight", "[I", true)
  | 26 => ("HundredGongsModel", "first", "[I", true)
  | 27 => ("HundredGongsModel", "sleeps", "I", false)
  | 28 => ("HundredGongsModel", "struck", "[I", true)
  | _ => ("HundredGongsModel", "line", "[I", true)
def tyX7 : Nat → FieldType := fun k => match k with
  | 0 => .int
  | 1 => .array .int
  | 2 => .array .int
  | 3 => .array .int
  | 4 => .array .int
  | 5 => .int
  | 6 => .int
  | 7 => .int
  | 8 => .array .int
  | 9 => .int
  | 10 => .int
  | 11 => .long
  | 12 => .int
  | 13 => .int
  | 14 => .int
  | 15 => .int
  | 16 => .int
  | 17 => .array .int
  | 18 => .array .long
  | 19 => .array .int
  | 20 => .int
  | 21 => .int
  | 22 => .array .long
  | 23 => .array .boolean
  | 24 => .int
  | 25 => .array .int
  | 26 => .array .int
  | 27 => .int
  | 28 => .array .int
  | _ => .array .int
abbrev wsX70 : List Cond := u_ws RX7 TX7 30
theorem nmX7 : ∀ a, a < 30 → ∀ b, b < 30 → a ≠ b → (TX7 a).2.1 ≠ (TX7 b).2.1 := by decide +kernel
theorem tyX7_ok : ∀ k, k < 30 → parseFieldDescriptor (TX7 k).2.2.1 = some (tyX7 k) := by decide +kernel
abbrev cX7_init : ByteArray := prog_9_method_1_code
def yX7_init : MethodName := ⟨RX7, "<init>", "()V"⟩
abbrev cX7_in : ByteArray := prog_9_method_2_code
def yX7_in : MethodName := ⟨RX7, "in", "(III)Z"⟩
abbrev cX7_has : ByteArray := prog_9_method_3_code
def yX7_has : MethodName := ⟨RX7, "has", "(II)Z"⟩
abbrev cX7_isGong : ByteArray := prog_9_method_4_code
def yX7_isGong : MethodName := ⟨RX7, "isGong", "(I)Z"⟩
abbrev cX7_plain : ByteArray := prog_9_method_5_code
def yX7_plain : MethodName := ⟨RX7, "plain", "(I)V"⟩
abbrev cX7_write : ByteArray := prog_9_method_6_code
def yX7_write : MethodName := ⟨RX7, "write", "(JI)I"⟩
abbrev cX7_erase : ByteArray := prog_9_method_7_code
def yX7_erase : MethodName := ⟨RX7, "erase", "()I"⟩
abbrev cX7_nextToken : ByteArray := prog_9_method_8_code
def yX7_nextToken : MethodName := ⟨RX7, "nextToken", "()V"⟩
abbrev cX7_fails : ByteArray := prog_9_method_9_code
def yX7_fails : MethodName := ⟨RX7, "fails", "()Z"⟩
abbrev cX7_isNumber : ByteArray := prog_9_method_10_code
def yX7_isNumber : MethodName := ⟨RX7, "isNumber", "(III)Z"⟩
abbrev cX7_isThere : ByteArray := prog_9_method_11_code
def yX7_isThere : MethodName := ⟨RX7, "isThere", "(I)Z"⟩
abbrev cX7_isHearing : ByteArray := prog_9_method_12_code
def yX7_isHearing : MethodName := ⟨RX7, "isHearing", "(I)Z"⟩
abbrev cX7_isLine : ByteArray := prog_9_method_13_code
def yX7_isLine : MethodName := ⟨RX7, "isLine", "(I)Z"⟩
abbrev cX7_isRead : ByteArray := prog_9_method_14_code
def yX7_isRead : MethodName := ⟨RX7, "isRead", "()Z"⟩
abbrev cX7_fault : ByteArray := prog_9_method_15_code
def yX7_fault : MethodName := ⟨RX7, "fault", "()I"⟩
abbrev cX7_doLine : ByteArray := prog_9_method_16_code
def yX7_doLine : MethodName := ⟨RX7, "doLine", "(I)V"⟩
abbrev cX7_cloister : ByteArray := prog_9_method_17_code
def yX7_cloister : MethodName := ⟨RX7, "cloister", "()I"⟩
abbrev cX7_canHear : ByteArray := prog_9_method_18_code
def yX7_canHear : MethodName := ⟨RX7, "canHear", "(I)Z"⟩
abbrev cX7_lateOf : ByteArray := prog_9_method_19_code
def yX7_lateOf : MethodName := ⟨RX7, "lateOf", "(I)I"⟩
abbrev cX7_gong : ByteArray := prog_9_method_20_code
def yX7_gong : MethodName := ⟨RX7, "gong", "(II)I"⟩
abbrev cX7_monk : ByteArray := prog_9_method_21_code
def yX7_monk : MethodName := ⟨RX7, "monk", "(II)I"⟩
abbrev cX7_as : ByteArray := prog_9_method_22_code
def yX7_as : MethodName := ⟨RX7, "as", "(II)I"⟩
abbrev cX7_sound : ByteArray := prog_9_method_23_code
def yX7_sound : MethodName := ⟨RX7, "sound", "(I)I"⟩
abbrev cX7_strike : ByteArray := prog_9_method_24_code
def yX7_strike : MethodName := ⟨RX7, "strike", "(I)I"⟩
abbrev cX7_pass : ByteArray := prog_9_method_25_code
def yX7_pass : MethodName := ⟨RX7, "pass", "()I"⟩
abbrev cX7_go : ByteArray := prog_9_method_26_code
def yX7_go : MethodName := ⟨RX7, "go", "(I)I"⟩
abbrev cX7_turn : ByteArray := prog_9_method_27_code
def yX7_turn : MethodName := ⟨RX7, "turn", "(I)I"⟩
abbrev cX7_keep : ByteArray := prog_9_method_28_code
def yX7_keep : MethodName := ⟨RX7, "keep", "(I)I"⟩
abbrev cX7_back : ByteArray := prog_9_method_29_code
def yX7_back : MethodName := ⟨RX7, "back", "(I)I"⟩
abbrev cX7_wakes : ByteArray := prog_9_method_30_code
def yX7_wakes : MethodName := ⟨RX7, "wakes", "(I)Z"⟩
abbrev cX7_roundOf : ByteArray := prog_9_method_31_code
def yX7_roundOf : MethodName := ⟨RX7, "roundOf", "(I)I"⟩
abbrev cX7_firstOf : ByteArray := prog_9_method_32_code
def yX7_firstOf : MethodName := ⟨RX7, "firstOf", "(II)I"⟩
abbrev cX7_layFirst : ByteArray := prog_9_method_33_code
def yX7_layFirst : MethodName := ⟨RX7, "layFirst", "(I)I"⟩
abbrev cX7_first : ByteArray := prog_9_method_34_code
def yX7_first : MethodName := ⟨RX7, "first", "(II)I"⟩
abbrev cX7_who : ByteArray := prog_9_method_35_code
def yX7_who : MethodName := ⟨RX7, "who", "(I)I"⟩
abbrev cX7_ends : ByteArray := prog_9_method_36_code
def yX7_ends : MethodName := ⟨RX7, "ends", "(I)I"⟩
abbrev cX7_round : ByteArray := prog_9_method_37_code
def yX7_round : MethodName := ⟨RX7, "round", "(I)I"⟩
abbrev cX7_times : ByteArray := prog_9_method_38_code
def yX7_times : MethodName := ⟨RX7, "times", "(III)I"⟩
abbrev cX7_apartOf : ByteArray := prog_9_method_39_code
def yX7_apartOf : MethodName := ⟨RX7, "apartOf", "(III)I"⟩
abbrev cX7_apart : ByteArray := prog_9_method_40_code
def yX7_apart : MethodName := ⟨RX7, "apart", "(III)I"⟩
abbrev cX7_exchange : ByteArray := prog_9_method_41_code
def yX7_exchange : MethodName := ⟨RX7, "exchange", "(II)V"⟩
abbrev cX7_change : ByteArray := prog_9_method_42_code
def yX7_change : MethodName := ⟨RX7, "change", "(IIII)I"⟩
abbrev cX7_bits : ByteArray := prog_9_method_43_code
def yX7_bits : MethodName := ⟨RX7, "bits", "(I)I"⟩
abbrev cX7_without : ByteArray := prog_9_method_44_code
def yX7_without : MethodName := ⟨RX7, "without", "(II)I"⟩
abbrev cX7_over : ByteArray := prog_9_method_45_code
def yX7_over : MethodName := ⟨RX7, "over", "(II)I"⟩
abbrev cX7_odds : ByteArray := prog_9_method_46_code
def yX7_odds : MethodName := ⟨RX7, "odds", "(IIII)I"⟩
abbrev cX7_seen : ByteArray := prog_9_method_47_code
def yX7_seen : MethodName := ⟨RX7, "seen", "(II)I"⟩
abbrev cX7_forget : ByteArray := prog_9_method_48_code
def yX7_forget : MethodName := ⟨RX7, "forget", "()I"⟩
abbrev cX7_isSo : ByteArray := prog_9_method_49_code
def yX7_isSo : MethodName := ⟨RX7, "isSo", "(I)Z"⟩
abbrev cX7_asleep : ByteArray := prog_9_method_50_code
def yX7_asleep : MethodName := ⟨RX7, "asleep", "(II)I"⟩
abbrev cX7_count : ByteArray := prog_9_method_51_code
def yX7_count : MethodName := ⟨RX7, "count", "(I)I"⟩
def RJ6 : String := "java/lang/Integer"
abbrev cJ6_bitCount_0f7a4 : ByteArray := prog_10_method_49_code
def yJ6_bitCount_0f7a4 : MethodName := ⟨RJ6, "bitCount", "(I)I"⟩
def RJ9 : String := "java/lang/Math"
abbrev cJ9_abs_0f7a4 : ByteArray := prog_11_method_59_code
def yJ9_abs_0f7a4 : MethodName := ⟨RJ9, "abs", "(I)I"⟩
abbrev cJ9_max_7cf53 : ByteArray := prog_11_method_65_code
def yJ9_max_7cf53 : MethodName := ⟨RJ9, "max", "(II)I"⟩
def RJ0 : String := "java/lang/String"
abbrev cJ0_length_8abf5 : ByteArray := prog_12_method_54_code
def yJ0_length_8abf5 : MethodName := ⟨RJ0, "length", "()I"⟩
abbrev cJ0_charAt_5068e : ByteArray := prog_12_method_56_code
def yJ0_charAt_5068e : MethodName := ⟨RJ0, "charAt", "(I)C"⟩
abbrev cJ0_coder_7d493 : ByteArray := prog_12_method_152_code
def yJ0_coder_7d493 : MethodName := ⟨RJ0, "coder", "()B"⟩
abbrev cJ0_isLatin1_aae02 : ByteArray := prog_12_method_154_code
def yJ0_isLatin1_aae02 : MethodName := ⟨RJ0, "isLatin1", "()Z"⟩
abbrev cJ0_checkIndex_df160 : ByteArray := prog_12_method_155_code
def yJ0_checkIndex_df160 : MethodName := ⟨RJ0, "checkIndex", "(II)V"⟩
def RJ1 : String := "java/lang/StringLatin1"
abbrev cJ1_charAt_3b067 : ByteArray := prog_13_method_2_code
def yJ1_charAt_3b067 : MethodName := ⟨RJ1, "charAt", "([BI)C"⟩
def RJ2 : String := "java/lang/StringUTF16"
abbrev cJ2_getChar_3b067 : ByteArray := prog_14_method_5_code
def yJ2_getChar_3b067 : MethodName := ⟨RJ2, "getChar", "([BI)C"⟩
abbrev cJ2_length_9d52b : ByteArray := prog_14_method_6_code
def yJ2_length_9d52b : MethodName := ⟨RJ2, "length", "([B)I"⟩
abbrev cJ2_charAt_3b067 : ByteArray := prog_14_method_83_code
def yJ2_charAt_3b067 : MethodName := ⟨RJ2, "charAt", "([BI)C"⟩
abbrev cJ2_checkIndex_2214a : ByteArray := prog_14_method_91_code
def yJ2_checkIndex_2214a : MethodName := ⟨RJ2, "checkIndex", "(I[B)V"⟩
def RJ10 : String := "java/lang/System"
def RJ7 : String := "java/util/Arrays"
abbrev cJ7_fill_53178 : ByteArray := prog_16_method_103_code
def yJ7_fill_53178 : MethodName := ⟨RJ7, "fill", "([II)V"⟩
def RJ3 : String := "jdk/internal/util/Preconditions"
abbrev cJ3_checkIndex_8e157 : ByteArray := prog_17_method_11_code
def yJ3_checkIndex_8e157 : MethodName := ⟨RJ3, "checkIndex", "(IILjava/util/function/BiFunction;)I"⟩
def RL : String := "HundredGongsLaw"
abbrev cL_law : ByteArray := code
def yL_law : MethodName := ⟨RL, "law", "([I)Z"⟩
abbrev vwCl : List vw_C := [(RX0, TX0, 6), (RX1, TX1, 8), (RX2, TX2, 5), (RX3, TX3, 3), (RX4, TX4, 6), (RX5, TX5, 3), (RX6, TX6, 8), (RX7, TX7, 30)]
